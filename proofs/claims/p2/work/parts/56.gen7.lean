section
variable {Γ : gS} {τ : gW}
set_option maxRecDepth 100000 in
set_option maxHeartbeats 400000 in
theorem ln_rc2 (S : gS) (x y : Int32) (hd : Int64) (V c : Nat) (h : Mr S V c) (hx : x = -1 ∨ ∃ i : Nat, i < V ∧ x = nI i) {Q : gR → gW → Prop} (kk : ∀ g : Int64, hd.toUInt64.toNat ≤ g.toUInt64.toNat → G MX5_reach (1, 22) 55 [some (.ref 28), some (.int x), some (.int y), some (.long g), none, some (.long hd), none, some (.int (nI 64))] [] (wRf Γ τ S) 0 0 Q) : ∀ (m i : Nat) (g : Int64), i + m = 64 → hd.toUInt64.toNat ≤ g.toUInt64.toNat → G MX5_reach (1, 22) 20 [some (.ref 28), some (.int x), some (.int y), some (.long g), none, some (.long hd), none, some (.int (nI i))] [] (wRf Γ τ S) 0 0 Q := by
  intro m
  induction m with
  | zero =>
    intro i g hi hg
    obtain rfl : i = 64 := by omega
    refine g_iload dX5_reach_20 rfl ?_
    refine g_bipush (v := 64) dX5_reach_22 (by decide) ?_
    refine g_icmp_ge (tgt := 55) dX5_reach_24 (by decide) (fun c24 => ?_) (fun c24 => ?_)
    · exact kk g hg
    · exact absurd (show (64 : Int32) ≤ nI 64 by decide) c24
  | succ m ih =>
    intro i g hi hg
    refine g_iload dX5_reach_20 rfl ?_
    refine g_bipush (v := 64) dX5_reach_22 (by decide) ?_
    refine g_icmp_ge (tgt := 55) dX5_reach_24 (by decide) (fun c24 => ?_) (fun c24 => ?_)
    · exact absurd c24 (nI_ge (b := 64) (by omega) (by decide))
    · refine g_lload dX5_reach_27 rfl ?_
      refine g_iload dX5_reach_29 rfl ?_
      refine g_lushr dX5_reach_31 ?_
      refine g_lconst (v := 1) dX5_reach_32 (by decide) ?_
      refine g_land dX5_reach_33 ?_
      refine g_lconst (v := 1) dX5_reach_34 (by decide) ?_
      refine g_lcmp dX5_reach_35 ?_
      refine g_if_ne (tgt := 49) dX5_reach_36 (by decide) (fun c36 => ?_) (fun c36 => ?_)
      · refine g_iinc dX5_reach_49 rfl (by decide) (by first | exact gi_1 _ | exact gi_p _) ?_
        refine g_goto (tgt := 20) dX5_reach_52 (by decide) ?_
        first | exact ih (i + 1) _ (by omega) hg | exact ih (i + 1) _ (by omega) (Nat.le_trans hg (or_ge _ _))
      · refine g_lload_n dX5_reach_39 rfl rfl ?_
        refine g_aload_n dX5_reach_40 rfl rfl ?_
        refine g_iload_n dX5_reach_41 rfl rfl ?_
        refine g_iload dX5_reach_42 rfl ?_
        refine cV2N (fun _ _ => rfl) dX5_reach_44 mlX5_178 imX5_edges seX5_edges rfl rfl (n_edges _ _ i (by omega) V c h hx) (by decide) (Nat.le_of_ble_eq_true rfl) (Nat.le_of_ble_eq_true rfl) (Nat.le_of_ble_eq_true rfl) ?_
        rintro _ _ ⟨⟨ed, rfl⟩, rfl⟩
        refine g_lor dX5_reach_47 ?_
        refine g_lstore_n dX5_reach_48 rfl (by decide) ?_
        refine g_iinc dX5_reach_49 rfl (by decide) (by first | exact gi_1 _ | exact gi_p _) ?_
        refine g_goto (tgt := 20) dX5_reach_52 (by decide) ?_
        first | exact ih (i + 1) _ (by omega) hg | exact ih (i + 1) _ (by omega) (Nat.le_trans hg (or_ge _ _))
set_option maxRecDepth 100000 in
set_option maxHeartbeats 400000 in
theorem ln_rcx (S : gS) (x y : Int32) (g : Int64) (l7 : Option Value) : G MX5_reach (1, 22) 7 [some (.ref 28), some (.int x), some (.int y), some (.long g), none, some (.long g), none, l7] [] (wRf Γ τ S) 0 0 (gN (wRf Γ τ) fun v S' => (∃ r : Int64, v = .long r) ∧ S = S') := by
  refine g_lload_n dX5_reach_7 rfl rfl ?_
  refine g_lload dX5_reach_8 rfl ?_
  refine g_lcmp dX5_reach_10 ?_
  refine g_if_eq (tgt := 58) dX5_reach_11 (by decide) (fun c11 => ?_) (fun c11 => ?_)
  · refine g_lload_n dX5_reach_58 rfl rfl ?_
    refine g_lret dX5_reach_59 rfl ⟨_, _, rfl, rfl, ?_⟩
    exact ⟨⟨_, rfl⟩, rfl⟩
  · exact absurd (cmp_eq rfl) c11
set_option maxRecDepth 100000 in
set_option maxHeartbeats 400000 in
theorem ln_rc1 (S : gS) (x y : Int32) (V c : Nat) (h : Mr S V c) (hx : x = -1 ∨ ∃ i : Nat, i < V ∧ x = nI i) : ∀ (m : Nat) (g hd : Int64) (l7 : Option Value), 2 ^ 64 - g.toUInt64.toNat ≤ m → G MX5_reach (1, 22) 7 [some (.ref 28), some (.int x), some (.int y), some (.long g), none, some (.long hd), none, l7] [] (wRf Γ τ S) 0 0 (gN (wRf Γ τ) fun v S' => (∃ r : Int64, v = .long r) ∧ S = S') := by
  intro m
  induction m with
  | zero =>
    intro g hd l7 hm
    have := lt_64 g
    omega
  | succ m ih =>
    intro g hd l7 hm
    refine g_lload_n dX5_reach_7 rfl rfl ?_
    refine g_lload dX5_reach_8 rfl ?_
    refine g_lcmp dX5_reach_10 ?_
    refine g_if_eq (tgt := 58) dX5_reach_11 (by decide) (fun c11 => ?_) (fun c11 => ?_)
    · refine g_lload_n dX5_reach_58 rfl rfl ?_
      refine g_lret dX5_reach_59 rfl ⟨_, _, rfl, rfl, ?_⟩
      exact ⟨⟨_, rfl⟩, rfl⟩
    · refine g_lload_n dX5_reach_14 rfl rfl ?_
      refine g_lstore dX5_reach_15 (by decide) ?_
      refine g_iconst (v := 0) dX5_reach_17 (by decide) ?_
      refine g_istore dX5_reach_18 (by decide) ?_
      refine ln_rc2 S x y g V c h hx (fun g2 hg2 => ?_) 64 0 _ rfl (Nat.le_refl _)
      refine g_goto (tgt := 7) dX5_reach_55 (by decide) ?_
      by_cases e : g2 = g
      · subst e
        exact ln_rcx S x y _ _
      · refine ih g2 g _ ?_
        have k1 := lt_64 g2
        have k2 : g2.toUInt64.toNat ≠ g.toUInt64.toNat := fun q => e (eq_64 q)
        omega
set_option maxRecDepth 100000 in
set_option maxHeartbeats 400000 in
theorem n_reach (S : gS) (x y : Int32) (V c : Nat) (h : Mr S V c) (hx : x = -1 ∨ ∃ i : Nat, i < V ∧ x = nI i) : gCt MX5_reach (1, 22) 0 0 [.ref 28, .int x, .int y] (wRf Γ τ S) (gN (wRf Γ τ) fun v S' => (∃ r : Int64, v = .long r) ∧ S = S') := by
  refine gCt.of (ls := [some (.ref 28), some (.int x), some (.int y), none, none, none, none, none]) 5 (by decide) rfl (Nat.le_of_ble_eq_true rfl) ?_
  refine g_lconst (v := 1) dX5_reach_0 (by decide) ?_
  refine g_iload_n dX5_reach_1 rfl rfl ?_
  refine g_lshl dX5_reach_2 ?_
  refine g_lstore_n dX5_reach_3 rfl (by decide) ?_
  refine g_lconst (v := 0) dX5_reach_4 (by decide) ?_
  refine g_lstore dX5_reach_5 (by decide) ?_
  exact ln_rc1 S x y V c h hx (2 ^ 64) _ _ _ (Nat.sub_le _ _)
set_option maxRecDepth 100000 in
set_option maxHeartbeats 400000 in
theorem lb_answer (S : gS) (x y : Int32) (w L V n c rm t : Nat) (h : RC S w L V n c rm t) (ht : t < 512) (tv : Int32) (htv : ¬ tv ≤ 0) : G MX5_answer (3, 89) 38 [some (.ref 28), some (.int x), some (.int y), none] [] (wRf Γ τ (mS S 28 0 tv)) 0 0 (gN (wRf Γ τ) fun v S' => (∃ r : Int32, v = .int r) ∧ RI S' (t + 1)) := by
  refine g_aload_n dX5_answer_38 rfl rfl ?_
  refine g_get dX5_answer_39 flX5_75 rfl rfl ?_
  rw [mS_same]
  refine g_if_le (tgt := 47) dX5_answer_42 (by decide) (fun c42 => ?_) (fun c42 => ?_)
  · exact absurd c42 htv
  · refine g_iconst (v := 0) dX5_answer_45 (by decide) ?_
    refine g_iret dX5_answer_46 rfl ⟨_, _, rfl, rfl, ?_⟩
    exact ⟨⟨_, rfl⟩, w, L, V, n, c, rm, (h.th _).up (by omega)⟩
set_option maxRecDepth 100000 in
set_option maxHeartbeats 400000 in
theorem lg_answer (S : gS) (x y : Int32) (w L V n c rm t : Nat) (h : RC S w L V n c rm t) (ht : t < 512) (hx : x = -1 ∨ ∃ i : Nat, i < V ∧ x = nI i) (ho : S.1 28 3 = 1) : G MX5_answer (3, 89) 38 [some (.ref 28), some (.int x), some (.int y), none] [] (wRf Γ τ (mS S 28 0 0)) 0 0 (gN (wRf Γ τ) fun v S' => (∃ r : Int32, v = .int r) ∧ RI S' (t + 1)) := by
  have hb := h.2 ho
  have hL := h.1.2.1.2.1
  have hw := h.1.2.1.1
  have h9 : (mS S 28 0 0).1 28 9 = nI L := h.1.1.2.1
  have h7 : (mS S 28 0 0).1 28 7 = nI w := h.1.1.1
  have h19 : (mS S 28 0 0).1 28 19 = nI n := h.1.1.2.2.2.1
  have hR : R0 (mS S 28 0 0) w L V n c rm := h.1
  refine g_aload_n dX5_answer_38 rfl rfl ?_
  refine g_get dX5_answer_39 flX5_75 rfl rfl ?_
  rw [mS_same]
  refine g_if_le (tgt := 47) dX5_answer_42 (by decide) (fun c42 => ?_) (fun c42 => ?_)
  · refine g_aload_n dX5_answer_47 rfl rfl ?_
    refine g_get dX5_answer_48 flX5_113 rfl rfl ?_
    refine g_bipush (v := 100) dX5_answer_51 (by decide) ?_
    refine g_icmp_eq (tgt := 65) dX5_answer_53 (by decide) (fun c53 => ?_) (fun c53 => ?_)
    · refine g_bipush (v := (-3)) dX5_answer_65 (by decide) ?_
      refine g_iret dX5_answer_67 rfl ⟨_, _, rfl, rfl, ?_⟩
      exact ⟨⟨_, rfl⟩, w, L, V, n, c, rm, (h.th 0).up (by omega)⟩
    · refine g_aload_n dX5_answer_56 rfl rfl ?_
      refine g_bipush (v := 22) dX5_answer_57 (by decide) ?_
      refine cV1N (fun _ _ => rfl) dX5_answer_59 mlX5_156 imX5_fits seX5_fits rfl rfl (m_fits _ _) (by decide) (Nat.le_of_ble_eq_true rfl) (Nat.le_of_ble_eq_true rfl) (Nat.le_of_ble_eq_true rfl) ?_
      rintro _ _ ⟨rfl, rfl⟩
      refine g_if_ne (tgt := 68) dX5_answer_62 (by decide) (fun c62 => ?_) (fun c62 => ?_)
      · have hf : L + 22 ≤ 24000 := fitL (k := 22) (by have q := c62; rw [h9] at q; exact q) (by omega)
        have hn : n < 100 := by
          have h100 := h.1.2.1.2.2.2.1
          refine Classical.byContradiction fun z => c53 ?_
          rw [h19, show n = 100 by omega]; rfl
        refine g_aload_n dX5_answer_68 rfl rfl ?_
        refine g_iconst (v := 4) dX5_answer_69 (by decide) ?_
        refine g_aload_n dX5_answer_70 rfl rfl ?_
        refine g_get dX5_answer_71 flX5_113 rfl rfl ?_
        refine g_bipush (v := 10) dX5_answer_74 (by decide) ?_
        refine cV3N (fun _ _ => rfl) dX5_answer_76 mlX5_159 imX5_begin_ seX5_begin_ rfl rfl (m_begin_ _ L w _ _ _ h9 (by omega) h7 (by omega)) (by decide) (Nat.le_of_ble_eq_true rfl) (Nat.le_of_ble_eq_true rfl) (Nat.le_of_ble_eq_true rfl) ?_
        rintro _ S1 ⟨rfl, hS1⟩
        refine g_istore_n dX5_answer_79 rfl (by decide) ?_
        refine g_aload_n dX5_answer_80 rfl rfl ?_
        refine g_iload_n dX5_answer_81 rfl rfl ?_
        refine g_iload_n dX5_answer_82 rfl rfl ?_
        refine cV20 (fun _ _ => rfl) dX5_answer_83 mlX5_118 imX5_put seX5_put rfl rfl (m_put _ (32 + L + 4) (w + 4) _ (by omega) hS1.1 (by omega)) (by decide) (Nat.le_of_ble_eq_true rfl) (Nat.le_of_ble_eq_true rfl) (Nat.le_of_ble_eq_true rfl) ?_
        rintro S2 hS2
        refine g_aload_n dX5_answer_86 rfl rfl ?_
        refine g_iload_n dX5_answer_87 rfl rfl ?_
        refine g_iconst (v := 1) dX5_answer_88 (by decide) ?_
        refine g_iadd dX5_answer_89 ?_
        refine g_eqi (y := nI (32 + L + 4 + 1)) (nI_1 _) ?_
        refine g_iload_n dX5_answer_90 rfl rfl ?_
        refine cV20 (fun _ _ => rfl) dX5_answer_91 mlX5_118 imX5_put seX5_put rfl rfl (m_put _ (32 + L + 4 + 1) (w + 4 + 1) _ (by omega) hS2.1 (by omega)) (by decide) (Nat.le_of_ble_eq_true rfl) (Nat.le_of_ble_eq_true rfl) (Nat.le_of_ble_eq_true rfl) ?_
        rintro S3 hS3
        refine g_aload_n dX5_answer_94 rfl rfl ?_
        refine g_iload_n dX5_answer_95 rfl rfl ?_
        refine g_iconst (v := 2) dX5_answer_96 (by decide) ?_
        refine g_iadd dX5_answer_97 ?_
        refine g_eqi (y := nI (32 + L + 4 + 2)) (nI_add _ 2) ?_
        refine g_aload_n dX5_answer_98 rfl rfl ?_
        refine g_iload_n dX5_answer_99 rfl rfl ?_
        refine g_iload_n dX5_answer_100 rfl rfl ?_
        refine cV2N (fun _ _ => rfl) dX5_answer_101 mlX5_181 imX5_reach seX5_reach rfl rfl (n_reach _ _ _ V c (hR.wr ((hS1.tr hS2).tr hS3) (by omega)).mr hx) (by decide) (Nat.le_of_ble_eq_true rfl) (Nat.le_of_ble_eq_true rfl) (Nat.le_of_ble_eq_true rfl) ?_
        rintro _ _ ⟨⟨re, rfl⟩, rfl⟩
        refine g_bipush (v := 8) dX5_answer_104 (by decide) ?_
        refine cV30 (fun _ _ => rfl) dX5_answer_106 mlX5_122 imX5_putNumber seX5_putNumber rfl rfl (m_putNumber _ _ (32 + L + 4 + 2) 8 (w + 4 + 1 + 1) (by omega) (by omega) hS3.1) (by decide) (Nat.le_of_ble_eq_true rfl) (Nat.le_of_ble_eq_true rfl) (Nat.le_of_ble_eq_true rfl) ?_
        rintro S4 hS4
        refine g_aload_n dX5_answer_109 rfl rfl ?_
        refine g_bipush (v := 10) dX5_answer_110 (by decide) ?_
        refine cV10 (fun _ _ => rfl) dX5_answer_112 mlX5_163 imX5_end seX5_end rfl rfl (m_end _ L (w + 4 + 1 + 1 + 8) 10 (fun S' => R0 S' (w + 4 + 1 + 1 + 8 + 8) (L + 22) V (n + 1) c rm) ((hS4.2.2.1 9 (by decide)).trans ((hS3.2.2.1 9 (by decide)).trans ((hS2.2.2.1 9 (by decide)).trans ((hS1.2.2.1 9 (by decide)).trans h9)))) (by omega) hS4.1 (by omega) (fun S5 hS5 => (n_take4 S5 (w + 4 + 1 + 1 + 8 + 8) L V n c rm (hR.wr ((((hS1.tr hS2).tr hS3).tr hS4).tr hS5) (by omega)) hf hn (by rw [hS5.2.1, mput_lo _ _ _ _ (by omega), hS4.2.1, mput_lo _ _ _ _ (by omega), hS3.2.1, pk_un (by omega), hS2.2.1, pk_un (by omega), hS1.2.1, mhead_k]; rfl)).mono (fun r9 w9 h9 => by obtain ⟨S9, q1, q2, q3⟩ := h9; exact ⟨S9, q1, q2, q3.1⟩))) (by decide) (Nat.le_of_ble_eq_true rfl) (Nat.le_of_ble_eq_true rfl) (Nat.le_of_ble_eq_true rfl) ?_
        rintro S6 hS6
        refine g_aload_n dX5_answer_115 rfl rfl ?_
        refine g_get dX5_answer_116 flX5_113 rfl rfl ?_
        refine g_iconst (v := 1) dX5_answer_119 (by decide) ?_
        refine g_isub dX5_answer_120 ?_
        refine g_iret dX5_answer_121 rfl ⟨_, _, rfl, rfl, ?_⟩
        exact ⟨⟨_, rfl⟩, w + 4 + 1 + 1 + 8 + 8, L + 22, V, n + 1, c, rm, hS6, fun _ => by omega⟩
      · refine g_bipush (v := (-3)) dX5_answer_65 (by decide) ?_
        refine g_iret dX5_answer_67 rfl ⟨_, _, rfl, rfl, ?_⟩
        exact ⟨⟨_, rfl⟩, w, L, V, n, c, rm, (h.th 0).up (by omega)⟩
  · exact absurd (by decide) c42
set_option maxRecDepth 100000 in
set_option maxHeartbeats 400000 in
theorem n_answer (S : gS) (x y : Int32) (w L V n c rm t : Nat) (h : RC S w L V n c rm t) (ht : t < 512) : gCt MX5_answer (3, 89) 0 0 [.ref 28, .int x, .int y] (wRf Γ τ S) (gN (wRf Γ τ) fun v S' => (∃ r : Int32, v = .int r) ∧ RI S' (t + 1)) := by
  refine gCt.of (ls := [some (.ref 28), some (.int x), some (.int y), none]) 1 (by decide) rfl (Nat.le_of_ble_eq_true rfl) ?_
  refine g_aload_n dX5_answer_0 rfl rfl ?_
  refine g_aload_n dX5_answer_1 rfl rfl ?_
  refine g_get dX5_answer_2 flX5_94 rfl rfl ?_
  refine g_if_ne (tgt := 12) dX5_answer_5 (by decide) (fun c5 => ?_) (fun c5 => ?_)
  · refine g_aload_n dX5_answer_12 rfl rfl ?_
    refine g_iload_n dX5_answer_13 rfl rfl ?_
    refine cV1N (fun _ _ => rfl) dX5_answer_14 mlX5_152 imX5_isThere seX5_isThere rfl rfl (n_isThere _ _ V h.1.1.2.2.1 h.1.2.1.2.2.1) (by decide) (Nat.le_of_ble_eq_true rfl) (Nat.le_of_ble_eq_true rfl) (Nat.le_of_ble_eq_true rfl) ?_
    rintro _ _ ⟨⟨it, rfl, it01, hit⟩, rfl⟩
    refine g_if_eq (tgt := 30) dX5_answer_17 (by decide) (fun c17 => ?_) (fun c17 => ?_)
    · refine g_iconst (v := 2) dX5_answer_30 (by decide) ?_
      refine g_goto (tgt := 35) dX5_answer_31 (by decide) ?_
      refine p_put dX5_answer_35 fpX5_75 rfl (Nat.le_of_ble_eq_true rfl) (fun _ => rfl) (fun _ => rfl) (by with_reducible first | exact wS_28_0 _ _ _ _) ?_
      exact lb_answer S x y w L V n c rm t h ht 2 (by decide)
    · refine g_iload_n dX5_answer_20 rfl rfl ?_
      refine g_iconst (v := 0) dX5_answer_21 (by decide) ?_
      refine g_bipush (v := 63) dX5_answer_22 (by decide) ?_
      refine cS3N (fun _ _ => rfl) dX5_answer_24 mlX5_133 isX5_in (m_in _ _ _ _) (by decide) (Nat.le_of_ble_eq_true rfl) (Nat.le_of_ble_eq_true rfl) (Nat.le_of_ble_eq_true rfl) ?_
      rintro _ _ ⟨rfl, rfl⟩
      refine g_if_ne (tgt := 34) dX5_answer_27 (by decide) (fun c27 => ?_) (fun c27 => ?_)
      · refine g_iconst (v := 0) dX5_answer_34 (by decide) ?_
        refine p_put dX5_answer_35 fpX5_75 rfl (Nat.le_of_ble_eq_true rfl) (fun _ => rfl) (fun _ => rfl) (by with_reducible first | exact wS_28_0 _ _ _ _) ?_
        exact lg_answer S x y w L V n c rm t h ht (Or.inr (hit c17)) (h.1.2.2.1.resolve_left c5)
      · refine g_iconst (v := 2) dX5_answer_30 (by decide) ?_
        refine g_goto (tgt := 35) dX5_answer_31 (by decide) ?_
        refine p_put dX5_answer_35 fpX5_75 rfl (Nat.le_of_ble_eq_true rfl) (fun _ => rfl) (fun _ => rfl) (by with_reducible first | exact wS_28_0 _ _ _ _) ?_
        exact lb_answer S x y w L V n c rm t h ht 2 (by decide)
  · refine g_iconst (v := 1) dX5_answer_8 (by decide) ?_
    refine g_goto (tgt := 35) dX5_answer_9 (by decide) ?_
    refine p_put dX5_answer_35 fpX5_75 rfl (Nat.le_of_ble_eq_true rfl) (fun _ => rfl) (fun _ => rfl) (by with_reducible first | exact wS_28_0 _ _ _ _) ?_
    exact lb_answer S x y w L V n c rm t h ht 1 (by decide)
end
