section
variable {Γ : gS} {τ : gW}
theorem or_ge (g e : Int64) : g.toUInt64.toNat ≤ (g ||| e).toUInt64.toNat := by
  rw [Int64.toUInt64_or, UInt64.toNat_or]
  exact Nat.left_le_or
theorem eq_64 {a b : Int64} (h : a.toUInt64.toNat = b.toUInt64.toNat) : a = b := Int64.toBitVec_inj.1 (congrArg UInt64.toBitVec (UInt64.toNat_inj.1 h))
theorem lt_64 (a : Int64) : a.toUInt64.toNat < 2 ^ 64 := a.toUInt64.toBitVec.isLt
set_option maxRecDepth 100000 in
set_option maxHeartbeats 400000 in
theorem ln_dif2 (S : gS) (x y : Int32) (a : Nat) (ha : a < 64) (V c : Nat) (h : Mr S V c) (hx : x = -1 ∨ ∃ i : Nat, i < V ∧ x = nI i) (hy : y = -1 ∨ ∃ i : Nat, i < V ∧ y = nI i) {Q : gR → gW → Prop} (kk : ∀ n : Int32, G MX5_differ (3, 64) 106 [some (.ref 28), some (.int x), some (.int y), some (.int n), some (.int (nI a)), some (.int (nI 64))] [] (wRf Γ τ S) 0 0 Q) : ∀ (m i : Nat) (n : Int32), i + m = 64 → G MX5_differ (3, 64) 60 [some (.ref 28), some (.int x), some (.int y), some (.int n), some (.int (nI a)), some (.int (nI i))] [] (wRf Γ τ S) 0 0 Q := by
  intro m
  induction m with
  | zero =>
    intro i n hi
    obtain rfl : i = 64 := by omega
    refine g_iload dX5_differ_60 rfl ?_
    refine g_bipush (v := 64) dX5_differ_62 (by decide) ?_
    refine g_icmp_ge (tgt := 106) dX5_differ_64 (by decide) (fun c64 => ?_) (fun c64 => ?_)
    · exact kk n
    · exact absurd (show (64 : Int32) ≤ nI 64 by decide) c64
  | succ m ih =>
    intro i n hi
    refine g_iload dX5_differ_60 rfl ?_
    refine g_bipush (v := 64) dX5_differ_62 (by decide) ?_
    refine g_icmp_ge (tgt := 106) dX5_differ_64 (by decide) (fun c64 => ?_) (fun c64 => ?_)
    · exact absurd c64 (nI_ge (b := 64) (by omega) (by decide))
    · refine g_iload_n dX5_differ_67 rfl rfl ?_
      refine g_aload_n dX5_differ_68 rfl rfl ?_
      refine g_iload_n dX5_differ_69 rfl rfl ?_
      refine g_iload dX5_differ_70 rfl ?_
      refine cV2N (fun _ _ => rfl) dX5_differ_72 mlX5_178 imX5_edges seX5_edges rfl rfl (n_edges _ _ a ha V c h hx) (by decide) (Nat.le_of_ble_eq_true rfl) (Nat.le_of_ble_eq_true rfl) (Nat.le_of_ble_eq_true rfl) ?_
      rintro _ _ ⟨⟨e1, rfl⟩, rfl⟩
      refine g_aload_n dX5_differ_75 rfl rfl ?_
      refine g_iload_n dX5_differ_76 rfl rfl ?_
      refine g_iload dX5_differ_77 rfl ?_
      refine cV2N (fun _ _ => rfl) dX5_differ_79 mlX5_178 imX5_edges seX5_edges rfl rfl (n_edges _ _ a ha V c h hy) (by decide) (Nat.le_of_ble_eq_true rfl) (Nat.le_of_ble_eq_true rfl) (Nat.le_of_ble_eq_true rfl) ?_
      rintro _ _ ⟨⟨e2, rfl⟩, rfl⟩
      refine g_lxor dX5_differ_82 ?_
      refine g_iload dX5_differ_83 rfl ?_
      refine g_lushr dX5_differ_85 ?_
      refine g_lconst (v := 1) dX5_differ_86 (by decide) ?_
      refine g_land dX5_differ_87 ?_
      refine g_lconst (v := 1) dX5_differ_88 (by decide) ?_
      refine g_lcmp dX5_differ_89 ?_
      refine g_if_ne (tgt := 97) dX5_differ_90 (by decide) (fun c90 => ?_) (fun c90 => ?_)
      · refine g_iconst (v := 0) dX5_differ_97 (by decide) ?_
        refine g_iadd dX5_differ_98 ?_
        refine g_istore_n dX5_differ_99 rfl (by decide) ?_
        refine g_iinc dX5_differ_100 rfl (by decide) (by first | exact gi_1 _ | exact gi_p _) ?_
        refine g_goto (tgt := 60) dX5_differ_103 (by decide) ?_
        exact ih (i + 1) _ (by omega)
      · refine g_iconst (v := 1) dX5_differ_93 (by decide) ?_
        refine g_goto (tgt := 98) dX5_differ_94 (by decide) ?_
        refine g_iadd dX5_differ_98 ?_
        refine g_istore_n dX5_differ_99 rfl (by decide) ?_
        refine g_iinc dX5_differ_100 rfl (by decide) (by first | exact gi_1 _ | exact gi_p _) ?_
        refine g_goto (tgt := 60) dX5_differ_103 (by decide) ?_
        exact ih (i + 1) _ (by omega)
set_option maxRecDepth 100000 in
set_option maxHeartbeats 400000 in
theorem ln_dif1 (S : gS) (x y : Int32) (V c : Nat) (h : Mr S V c) (hx : x = -1 ∨ ∃ i : Nat, i < V ∧ x = nI i) (hy : y = -1 ∨ ∃ i : Nat, i < V ∧ y = nI i) {Q : gR → gW → Prop} (kk : ∀ (n : Int32) (l5 : Option Value), G MX5_differ (3, 64) 112 [some (.ref 28), some (.int x), some (.int y), some (.int n), some (.int (nI 64)), l5] [] (wRf Γ τ S) 0 0 Q) : ∀ (m a : Nat) (n : Int32) (l5 : Option Value), a + m = 64 → G MX5_differ (3, 64) 50 [some (.ref 28), some (.int x), some (.int y), some (.int n), some (.int (nI a)), l5] [] (wRf Γ τ S) 0 0 Q := by
  intro m
  induction m with
  | zero =>
    intro a n l5 hi
    obtain rfl : a = 64 := by omega
    refine g_iload dX5_differ_50 rfl ?_
    refine g_bipush (v := 64) dX5_differ_52 (by decide) ?_
    refine g_icmp_ge (tgt := 112) dX5_differ_54 (by decide) (fun c54 => ?_) (fun c54 => ?_)
    · exact kk _ _
    · exact absurd (show (64 : Int32) ≤ nI 64 by decide) c54
  | succ m ih =>
    intro a n l5 hi
    refine g_iload dX5_differ_50 rfl ?_
    refine g_bipush (v := 64) dX5_differ_52 (by decide) ?_
    refine g_icmp_ge (tgt := 112) dX5_differ_54 (by decide) (fun c54 => ?_) (fun c54 => ?_)
    · exact absurd c54 (nI_ge (b := 64) (by omega) (by decide))
    · refine g_iconst (v := 0) dX5_differ_57 (by decide) ?_
      refine g_istore dX5_differ_58 (by decide) ?_
      refine ln_dif2 S x y a (by omega) V c h hx hy (fun n9 => ?_) 64 0 _ rfl
      refine g_iinc dX5_differ_106 rfl (by decide) (by first | exact gi_1 _ | exact gi_p _) ?_
      refine g_goto (tgt := 50) dX5_differ_109 (by decide) ?_
      exact ih (a + 1) _ _ (by omega)
set_option maxRecDepth 100000 in
set_option maxHeartbeats 400000 in
theorem lb_differ (S : gS) (x y : Int32) (V c : Nat) (h : Mr S V c) (t : Nat) (hR : RI S t) (tv : Int32) (htv : ¬ tv ≤ 0) : G MX5_differ (3, 64) 36 [some (.ref 28), some (.int x), some (.int y), none, none, none] [] (wRf Γ τ (mS S 28 0 tv)) 0 0 (gN (wRf Γ τ) fun v S' => (∃ r : Int32, v = .int r) ∧ RI S' (t + 1)) := by
  refine g_aload_n dX5_differ_36 rfl rfl ?_
  refine g_get dX5_differ_37 flX5_75 rfl rfl ?_
  rw [mS_same]
  refine g_if_le (tgt := 45) dX5_differ_40 (by decide) (fun c40 => ?_) (fun c40 => ?_)
  · exact absurd c40 htv
  · refine g_iconst (v := 0) dX5_differ_43 (by decide) ?_
    refine g_iret dX5_differ_44 rfl ⟨_, _, rfl, rfl, ?_⟩
    exact ⟨⟨_, rfl⟩, hR.th _⟩
set_option maxRecDepth 100000 in
set_option maxHeartbeats 400000 in
theorem lg_differ (S : gS) (x y : Int32) (V c : Nat) (h : Mr S V c) (t : Nat) (hR : RI S t) (hx : x = -1 ∨ ∃ i : Nat, i < V ∧ x = nI i) (hy : y = -1 ∨ ∃ i : Nat, i < V ∧ y = nI i) : G MX5_differ (3, 64) 36 [some (.ref 28), some (.int x), some (.int y), none, none, none] [] (wRf Γ τ (mS S 28 0 0)) 0 0 (gN (wRf Γ τ) fun v S' => (∃ r : Int32, v = .int r) ∧ RI S' (t + 1)) := by
  refine g_aload_n dX5_differ_36 rfl rfl ?_
  refine g_get dX5_differ_37 flX5_75 rfl rfl ?_
  rw [mS_same]
  refine g_if_le (tgt := 45) dX5_differ_40 (by decide) (fun c40 => ?_) (fun c40 => ?_)
  · refine g_iconst (v := 0) dX5_differ_45 (by decide) ?_
    refine g_istore_n dX5_differ_46 rfl (by decide) ?_
    refine g_iconst (v := 0) dX5_differ_47 (by decide) ?_
    refine g_istore dX5_differ_48 (by decide) ?_
    refine ln_dif1 _ x y V c (h.t 0) hx hy (fun n9 l5 => ?_) 64 0 _ _ rfl
    refine g_iload_n dX5_differ_112 rfl rfl ?_
    refine g_iret dX5_differ_113 rfl ⟨_, _, rfl, rfl, ?_⟩
    exact ⟨⟨_, rfl⟩, hR.th _⟩
  · exact absurd (by decide) c40
set_option maxRecDepth 100000 in
set_option maxHeartbeats 400000 in
theorem n_differ (S : gS) (x y : Int32) (V c : Nat) (h : Mr S V c) (t : Nat) (hR : RI S t) : gCt MX5_differ (3, 64) 0 0 [.ref 28, .int x, .int y] (wRf Γ τ S) (gN (wRf Γ τ) fun v S' => (∃ r : Int32, v = .int r) ∧ RI S' (t + 1)) := by
  refine gCt.of (ls := [some (.ref 28), some (.int x), some (.int y), none, none, none]) 3 (by decide) rfl (Nat.le_of_ble_eq_true rfl) ?_
  refine g_aload_n dX5_differ_0 rfl rfl ?_
  refine g_aload_n dX5_differ_1 rfl rfl ?_
  refine g_get dX5_differ_2 flX5_94 rfl rfl ?_
  refine g_if_ne (tgt := 12) dX5_differ_5 (by decide) (fun c5 => ?_) (fun c5 => ?_)
  · refine g_aload_n dX5_differ_12 rfl rfl ?_
    refine g_iload_n dX5_differ_13 rfl rfl ?_
    refine cV1N (fun _ _ => rfl) dX5_differ_14 mlX5_203 imX5_isVersion seX5_isVersion rfl rfl (n_isVersion _ _ V h.1 h.2.1) (by decide) (Nat.le_of_ble_eq_true rfl) (Nat.le_of_ble_eq_true rfl) (Nat.le_of_ble_eq_true rfl) ?_
    rintro _ _ ⟨⟨iv, rfl, iv01, hiv⟩, rfl⟩
    refine g_if_eq (tgt := 28) dX5_differ_17 (by decide) (fun c17 => ?_) (fun c17 => ?_)
    · refine g_iconst (v := 2) dX5_differ_28 (by decide) ?_
      refine g_goto (tgt := 33) dX5_differ_29 (by decide) ?_
      refine p_put dX5_differ_33 fpX5_75 rfl (Nat.le_of_ble_eq_true rfl) (fun _ => rfl) (fun _ => rfl) (by with_reducible first | exact wS_28_0 _ _ _ _) ?_
      exact lb_differ S x y V c h t hR 2 (by decide)
    · refine g_aload_n dX5_differ_20 rfl rfl ?_
      refine g_iload_n dX5_differ_21 rfl rfl ?_
      refine cV1N (fun _ _ => rfl) dX5_differ_22 mlX5_203 imX5_isVersion seX5_isVersion rfl rfl (n_isVersion _ _ V h.1 h.2.1) (by decide) (Nat.le_of_ble_eq_true rfl) (Nat.le_of_ble_eq_true rfl) (Nat.le_of_ble_eq_true rfl) ?_
      rintro _ _ ⟨⟨iv2, rfl, iv201, hiv2⟩, rfl⟩
      refine g_if_ne (tgt := 32) dX5_differ_25 (by decide) (fun c25 => ?_) (fun c25 => ?_)
      · refine g_iconst (v := 0) dX5_differ_32 (by decide) ?_
        refine p_put dX5_differ_33 fpX5_75 rfl (Nat.le_of_ble_eq_true rfl) (fun _ => rfl) (fun _ => rfl) (by with_reducible first | exact wS_28_0 _ _ _ _) ?_
        exact lg_differ S x y V c h t hR (hiv c17) (hiv2 c25)
      · refine g_iconst (v := 2) dX5_differ_28 (by decide) ?_
        refine g_goto (tgt := 33) dX5_differ_29 (by decide) ?_
        refine p_put dX5_differ_33 fpX5_75 rfl (Nat.le_of_ble_eq_true rfl) (fun _ => rfl) (fun _ => rfl) (by with_reducible first | exact wS_28_0 _ _ _ _) ?_
        exact lb_differ S x y V c h t hR 2 (by decide)
  · refine g_iconst (v := 1) dX5_differ_8 (by decide) ?_
    refine g_goto (tgt := 33) dX5_differ_9 (by decide) ?_
    refine p_put dX5_differ_33 fpX5_75 rfl (Nat.le_of_ble_eq_true rfl) (fun _ => rfl) (fun _ => rfl) (by with_reducible first | exact wS_28_0 _ _ _ _) ?_
    exact lb_differ S x y V c h t hR 1 (by decide)
set_option maxRecDepth 100000 in
set_option maxHeartbeats 400000 in
theorem ln_far2 (S : gS) (x y z n : Int32) (hd : Int64) (V c : Nat) (h : Mr S V c) (hx : x = -1 ∨ ∃ i : Nat, i < V ∧ x = nI i) {Q : gR → gW → Prop} (kk : ∀ g : Int64, hd.toUInt64.toNat ≤ g.toUInt64.toNat → G MX5_far (3, 64) 134 [some (.ref 28), some (.int x), some (.int y), some (.int z), some (.long g), none, some (.int n), some (.long hd), none, some (.int (nI 64))] [] (wRf Γ τ S) 0 0 Q) : ∀ (m i : Nat) (g : Int64), i + m = 64 → hd.toUInt64.toNat ≤ g.toUInt64.toNat → G MX5_far (3, 64) 97 [some (.ref 28), some (.int x), some (.int y), some (.int z), some (.long g), none, some (.int n), some (.long hd), none, some (.int (nI i))] [] (wRf Γ τ S) 0 0 Q := by
  intro m
  induction m with
  | zero =>
    intro i g hi hg
    obtain rfl : i = 64 := by omega
    refine g_iload dX5_far_97 rfl ?_
    refine g_bipush (v := 64) dX5_far_99 (by decide) ?_
    refine g_icmp_ge (tgt := 134) dX5_far_101 (by decide) (fun c101 => ?_) (fun c101 => ?_)
    · exact kk g hg
    · exact absurd (show (64 : Int32) ≤ nI 64 by decide) c101
  | succ m ih =>
    intro i g hi hg
    refine g_iload dX5_far_97 rfl ?_
    refine g_bipush (v := 64) dX5_far_99 (by decide) ?_
    refine g_icmp_ge (tgt := 134) dX5_far_101 (by decide) (fun c101 => ?_) (fun c101 => ?_)
    · exact absurd c101 (nI_ge (b := 64) (by omega) (by decide))
    · refine g_lload dX5_far_104 rfl ?_
      refine g_iload dX5_far_106 rfl ?_
      refine g_lushr dX5_far_108 ?_
      refine g_lconst (v := 1) dX5_far_109 (by decide) ?_
      refine g_land dX5_far_110 ?_
      refine g_lconst (v := 1) dX5_far_111 (by decide) ?_
      refine g_lcmp dX5_far_112 ?_
      refine g_if_ne (tgt := 128) dX5_far_113 (by decide) (fun c113 => ?_) (fun c113 => ?_)
      · refine g_iinc dX5_far_128 rfl (by decide) (by first | exact gi_1 _ | exact gi_p _) ?_
        refine g_goto (tgt := 97) dX5_far_131 (by decide) ?_
        first | exact ih (i + 1) _ (by omega) hg | exact ih (i + 1) _ (by omega) (Nat.le_trans hg (or_ge _ _))
      · refine g_lload dX5_far_116 rfl ?_
        refine g_aload_n dX5_far_118 rfl rfl ?_
        refine g_iload_n dX5_far_119 rfl rfl ?_
        refine g_iload dX5_far_120 rfl ?_
        refine cV2N (fun _ _ => rfl) dX5_far_122 mlX5_178 imX5_edges seX5_edges rfl rfl (n_edges _ _ i (by omega) V c h hx) (by decide) (Nat.le_of_ble_eq_true rfl) (Nat.le_of_ble_eq_true rfl) (Nat.le_of_ble_eq_true rfl) ?_
        rintro _ _ ⟨⟨ed, rfl⟩, rfl⟩
        refine g_lor dX5_far_125 ?_
        refine g_lstore dX5_far_126 (by decide) ?_
        refine g_iinc dX5_far_128 rfl (by decide) (by first | exact gi_1 _ | exact gi_p _) ?_
        refine g_goto (tgt := 97) dX5_far_131 (by decide) ?_
        first | exact ih (i + 1) _ (by omega) hg | exact ih (i + 1) _ (by omega) (Nat.le_trans hg (or_ge _ _))
set_option maxRecDepth 100000 in
set_option maxHeartbeats 400000 in
theorem ln_farx (S : gS) (x y z n : Int32) (g : Int64) (l9 : Option Value) : G MX5_far (3, 64) 68 [some (.ref 28), some (.int x), some (.int y), some (.int z), some (.long g), none, some (.int n), some (.long g), none, l9] [] (wRf Γ τ S) 0 0 (gN (wRf Γ τ) fun v S' => (∃ r : Int32, v = .int r) ∧ S = S') := by
  refine g_lload dX5_far_68 rfl ?_
  refine g_lload dX5_far_70 rfl ?_
  refine g_lcmp dX5_far_72 ?_
  refine g_if_eq (tgt := 140) dX5_far_73 (by decide) (fun c73 => ?_) (fun c73 => ?_)
  · refine g_iconst (v := (-1)) dX5_far_140 (by decide) ?_
    refine g_iret dX5_far_141 rfl ⟨_, _, rfl, rfl, ?_⟩
    exact ⟨⟨_, rfl⟩, rfl⟩
  · exact absurd (cmp_eq rfl) c73
set_option maxRecDepth 100000 in
set_option maxHeartbeats 400000 in
theorem ln_far1 (S : gS) (x y z : Int32) (V c : Nat) (h : Mr S V c) (hx : x = -1 ∨ ∃ i : Nat, i < V ∧ x = nI i) : ∀ (m : Nat) (n : Int32) (g hd : Int64) (l9 : Option Value), 2 ^ 64 - g.toUInt64.toNat ≤ m → G MX5_far (3, 64) 68 [some (.ref 28), some (.int x), some (.int y), some (.int z), some (.long g), none, some (.int n), some (.long hd), none, l9] [] (wRf Γ τ S) 0 0 (gN (wRf Γ τ) fun v S' => (∃ r : Int32, v = .int r) ∧ S = S') := by
  intro m
  induction m with
  | zero =>
    intro n g hd l9 hm
    have := lt_64 g
    omega
  | succ m ih =>
    intro n g hd l9 hm
    refine g_lload dX5_far_68 rfl ?_
    refine g_lload dX5_far_70 rfl ?_
    refine g_lcmp dX5_far_72 ?_
    refine g_if_eq (tgt := 140) dX5_far_73 (by decide) (fun c73 => ?_) (fun c73 => ?_)
    · refine g_iconst (v := (-1)) dX5_far_140 (by decide) ?_
      refine g_iret dX5_far_141 rfl ⟨_, _, rfl, rfl, ?_⟩
      exact ⟨⟨_, rfl⟩, rfl⟩
    · refine g_lload dX5_far_76 rfl ?_
      refine g_iload_n dX5_far_78 rfl rfl ?_
      refine g_lushr dX5_far_79 ?_
      refine g_lconst (v := 1) dX5_far_80 (by decide) ?_
      refine g_land dX5_far_81 ?_
      refine g_lconst (v := 1) dX5_far_82 (by decide) ?_
      refine g_lcmp dX5_far_83 ?_
      refine g_if_ne (tgt := 90) dX5_far_84 (by decide) (fun c84 => ?_) (fun c84 => ?_)
      · refine g_lload dX5_far_90 rfl ?_
        refine g_lstore dX5_far_92 (by decide) ?_
        refine g_iconst (v := 0) dX5_far_94 (by decide) ?_
        refine g_istore dX5_far_95 (by decide) ?_
        refine ln_far2 S x y z n g V c h hx (fun g2 hg2 => ?_) 64 0 _ rfl (Nat.le_refl _)
        refine g_iinc dX5_far_134 rfl (by decide) (by first | exact gi_1 _ | exact gi_p _) ?_
        refine g_goto (tgt := 68) dX5_far_137 (by decide) ?_
        by_cases e : g2 = g
        · subst e
          exact ln_farx S x y z _ _ _
        · refine ih _ g2 g _ ?_
          have k1 := lt_64 g2
          have k2 : g2.toUInt64.toNat ≠ g.toUInt64.toNat := fun q => e (eq_64 q)
          omega
      · refine g_iload dX5_far_87 rfl ?_
        refine g_iret dX5_far_89 rfl ⟨_, _, rfl, rfl, ?_⟩
        exact ⟨⟨_, rfl⟩, rfl⟩
set_option maxRecDepth 100000 in
set_option maxHeartbeats 400000 in
theorem lb_far (S : gS) (x y z : Int32) (V c : Nat) (h : Mr S V c) (t : Nat) (hR : RI S t) (tv : Int32) (htv : ¬ tv ≤ 0) : G MX5_far (3, 64) 48 [some (.ref 28), some (.int x), some (.int y), some (.int z), none, none, none, none, none, none] [] (wRf Γ τ (mS S 28 0 tv)) 0 0 (gN (wRf Γ τ) fun v S' => (∃ r : Int32, v = .int r) ∧ RI S' (t + 1)) := by
  refine g_aload_n dX5_far_48 rfl rfl ?_
  refine g_get dX5_far_49 flX5_75 rfl rfl ?_
  rw [mS_same]
  refine g_if_le (tgt := 57) dX5_far_52 (by decide) (fun c52 => ?_) (fun c52 => ?_)
  · exact absurd c52 htv
  · refine g_iconst (v := 0) dX5_far_55 (by decide) ?_
    refine g_iret dX5_far_56 rfl ⟨_, _, rfl, rfl, ?_⟩
    exact ⟨⟨_, rfl⟩, hR.th _⟩
set_option maxRecDepth 100000 in
set_option maxHeartbeats 400000 in
theorem lg_far (S : gS) (x y z : Int32) (V c : Nat) (h : Mr S V c) (t : Nat) (hR : RI S t) (hx : x = -1 ∨ ∃ i : Nat, i < V ∧ x = nI i) : G MX5_far (3, 64) 48 [some (.ref 28), some (.int x), some (.int y), some (.int z), none, none, none, none, none, none] [] (wRf Γ τ (mS S 28 0 0)) 0 0 (gN (wRf Γ τ) fun v S' => (∃ r : Int32, v = .int r) ∧ RI S' (t + 1)) := by
  refine g_aload_n dX5_far_48 rfl rfl ?_
  refine g_get dX5_far_49 flX5_75 rfl rfl ?_
  rw [mS_same]
  refine g_if_le (tgt := 57) dX5_far_52 (by decide) (fun c52 => ?_) (fun c52 => ?_)
  · refine g_lconst (v := 1) dX5_far_57 (by decide) ?_
    refine g_iload_n dX5_far_58 rfl rfl ?_
    refine g_lshl dX5_far_59 ?_
    refine g_lstore dX5_far_60 (by decide) ?_
    refine g_iconst (v := 0) dX5_far_62 (by decide) ?_
    refine g_istore dX5_far_63 (by decide) ?_
    refine g_lconst (v := 0) dX5_far_65 (by decide) ?_
    refine g_lstore dX5_far_66 (by decide) ?_
    refine GE.mono ?_ (ln_far1 (mS S 28 0 0) x y z V c (h.t 0) hx (2 ^ 64) _ _ _ _ (Nat.sub_le _ _))
    rintro r9 w9 ⟨v9, S9, e1, e2, e3, rfl⟩
    exact ⟨v9, _, e1, e2, e3, hR.th _⟩
  · exact absurd (by decide) c52
set_option maxRecDepth 100000 in
set_option maxHeartbeats 400000 in
theorem n_far (S : gS) (x y z : Int32) (V c : Nat) (h : Mr S V c) (t : Nat) (hR : RI S t) : gCt MX5_far (3, 64) 0 0 [.ref 28, .int x, .int y, .int z] (wRf Γ τ S) (gN (wRf Γ τ) fun v S' => (∃ r : Int32, v = .int r) ∧ RI S' (t + 1)) := by
  refine gCt.of (ls := [some (.ref 28), some (.int x), some (.int y), some (.int z), none, none, none, none, none, none]) 6 (by decide) rfl (Nat.le_of_ble_eq_true rfl) ?_
  refine g_aload_n dX5_far_0 rfl rfl ?_
  refine g_aload_n dX5_far_1 rfl rfl ?_
  refine g_get dX5_far_2 flX5_94 rfl rfl ?_
  refine g_if_ne (tgt := 12) dX5_far_5 (by decide) (fun c5 => ?_) (fun c5 => ?_)
  · refine g_aload_n dX5_far_12 rfl rfl ?_
    refine g_iload_n dX5_far_13 rfl rfl ?_
    refine cV1N (fun _ _ => rfl) dX5_far_14 mlX5_203 imX5_isVersion seX5_isVersion rfl rfl (n_isVersion _ _ V h.1 h.2.1) (by decide) (Nat.le_of_ble_eq_true rfl) (Nat.le_of_ble_eq_true rfl) (Nat.le_of_ble_eq_true rfl) ?_
    rintro _ _ ⟨⟨iv, rfl, iv01, hiv⟩, rfl⟩
    refine g_if_eq (tgt := 40) dX5_far_17 (by decide) (fun c17 => ?_) (fun c17 => ?_)
    · refine g_iconst (v := 2) dX5_far_40 (by decide) ?_
      refine g_goto (tgt := 45) dX5_far_41 (by decide) ?_
      refine p_put dX5_far_45 fpX5_75 rfl (Nat.le_of_ble_eq_true rfl) (fun _ => rfl) (fun _ => rfl) (by with_reducible first | exact wS_28_0 _ _ _ _) ?_
      exact lb_far S x y z V c h t hR 2 (by decide)
    · refine g_iload_n dX5_far_20 rfl rfl ?_
      refine g_iconst (v := 0) dX5_far_21 (by decide) ?_
      refine g_bipush (v := 63) dX5_far_22 (by decide) ?_
      refine cS3N (fun _ _ => rfl) dX5_far_24 mlX5_133 isX5_in (m_in _ _ _ _) (by decide) (Nat.le_of_ble_eq_true rfl) (Nat.le_of_ble_eq_true rfl) (Nat.le_of_ble_eq_true rfl) ?_
      rintro _ _ ⟨rfl, rfl⟩
      refine g_if_eq (tgt := 40) dX5_far_27 (by decide) (fun c27 => ?_) (fun c27 => ?_)
      · refine g_iconst (v := 2) dX5_far_40 (by decide) ?_
        refine g_goto (tgt := 45) dX5_far_41 (by decide) ?_
        refine p_put dX5_far_45 fpX5_75 rfl (Nat.le_of_ble_eq_true rfl) (fun _ => rfl) (fun _ => rfl) (by with_reducible first | exact wS_28_0 _ _ _ _) ?_
        exact lb_far S x y z V c h t hR 2 (by decide)
      · refine g_iload_n dX5_far_30 rfl rfl ?_
        refine g_iconst (v := 0) dX5_far_31 (by decide) ?_
        refine g_bipush (v := 63) dX5_far_32 (by decide) ?_
        refine cS3N (fun _ _ => rfl) dX5_far_34 mlX5_133 isX5_in (m_in _ _ _ _) (by decide) (Nat.le_of_ble_eq_true rfl) (Nat.le_of_ble_eq_true rfl) (Nat.le_of_ble_eq_true rfl) ?_
        rintro _ _ ⟨rfl, rfl⟩
        refine g_if_ne (tgt := 44) dX5_far_37 (by decide) (fun c37 => ?_) (fun c37 => ?_)
        · refine g_iconst (v := 0) dX5_far_44 (by decide) ?_
          refine p_put dX5_far_45 fpX5_75 rfl (Nat.le_of_ble_eq_true rfl) (fun _ => rfl) (fun _ => rfl) (by with_reducible first | exact wS_28_0 _ _ _ _) ?_
          exact lg_far S x y z V c h t hR (hiv c17)
        · refine g_iconst (v := 2) dX5_far_40 (by decide) ?_
          refine g_goto (tgt := 45) dX5_far_41 (by decide) ?_
          refine p_put dX5_far_45 fpX5_75 rfl (Nat.le_of_ble_eq_true rfl) (fun _ => rfl) (fun _ => rfl) (by with_reducible first | exact wS_28_0 _ _ _ _) ?_
          exact lb_far S x y z V c h t hR 2 (by decide)
  · refine g_iconst (v := 1) dX5_far_8 (by decide) ?_
    refine g_goto (tgt := 45) dX5_far_9 (by decide) ?_
    refine p_put dX5_far_45 fpX5_75 rfl (Nat.le_of_ble_eq_true rfl) (fun _ => rfl) (fun _ => rfl) (by with_reducible first | exact wS_28_0 _ _ _ _) ?_
    exact lb_far S x y z V c h t hR 1 (by decide)
set_option maxRecDepth 100000 in
set_option maxHeartbeats 400000 in
theorem ln_told2 (S : gS) (x : Int32) (a : Nat) (ha : a < 64) {Q : gR → gW → Prop} (kk : ∀ n : Int32, G MX5_told (2, 47) 175 [some (.ref 28), some (.int x), some (.int n), some (.int (nI a)), some (.int (nI 64))] [] (wRf Γ τ S) 0 0 Q) : ∀ (m i : Nat) (n : Int32), i + m = 64 → G MX5_told (2, 47) 144 [some (.ref 28), some (.int x), some (.int n), some (.int (nI a)), some (.int (nI i))] [] (wRf Γ τ S) 0 0 Q := by
  intro m
  induction m with
  | zero =>
    intro i n hi
    obtain rfl : i = 64 := by omega
    refine g_iload dX5_told_144 rfl ?_
    refine g_bipush (v := 64) dX5_told_146 (by decide) ?_
    refine g_icmp_ge (tgt := 175) dX5_told_148 (by decide) (fun c148 => ?_) (fun c148 => ?_)
    · exact kk n
    · exact absurd (show (64 : Int32) ≤ nI 64 by decide) c148
  | succ m ih =>
    intro i n hi
    refine g_iload dX5_told_144 rfl ?_
    refine g_bipush (v := 64) dX5_told_146 (by decide) ?_
    refine g_icmp_ge (tgt := 175) dX5_told_148 (by decide) (fun c148 => ?_) (fun c148 => ?_)
    · exact absurd c148 (nI_ge (b := 64) (by omega) (by decide))
    · refine g_iload_n dX5_told_151 rfl rfl ?_
      refine g_aload_n dX5_told_152 rfl rfl ?_
      refine g_iload_n dX5_told_153 rfl rfl ?_
      refine g_iload dX5_told_154 rfl ?_
      refine cV2N (fun _ _ => rfl) dX5_told_156 mlX5_148 imX5_hasNow seX5_hasNow rfl rfl (m_hasNow _ a _ ha) (by decide) (Nat.le_of_ble_eq_true rfl) (Nat.le_of_ble_eq_true rfl) (Nat.le_of_ble_eq_true rfl) ?_
      rintro _ _ ⟨⟨hn, rfl, -⟩, rfl⟩
      refine g_if_eq (tgt := 166) dX5_told_159 (by decide) (fun c159 => ?_) (fun c159 => ?_)
      · refine g_iconst (v := 0) dX5_told_166 (by decide) ?_
        refine g_iadd dX5_told_167 ?_
        refine g_istore_n dX5_told_168 rfl (by decide) ?_
        refine g_iinc dX5_told_169 rfl (by decide) (by first | exact gi_1 _ | exact gi_p _) ?_
        refine g_goto (tgt := 144) dX5_told_172 (by decide) ?_
        exact ih (i + 1) _ (by omega)
      · refine g_iconst (v := 1) dX5_told_162 (by decide) ?_
        refine g_goto (tgt := 167) dX5_told_163 (by decide) ?_
        refine g_iadd dX5_told_167 ?_
        refine g_istore_n dX5_told_168 rfl (by decide) ?_
        refine g_iinc dX5_told_169 rfl (by decide) (by first | exact gi_1 _ | exact gi_p _) ?_
        refine g_goto (tgt := 144) dX5_told_172 (by decide) ?_
        exact ih (i + 1) _ (by omega)
set_option maxRecDepth 100000 in
set_option maxHeartbeats 400000 in
theorem ln_told1 (S : gS) (x : Int32) {Q : gR → gW → Prop} (kk : ∀ (n : Int32) (l4 : Option Value), G MX5_told (2, 47) 181 [some (.ref 28), some (.int x), some (.int n), some (.int (nI 64)), l4] [] (wRf Γ τ S) 0 0 Q) : ∀ (m a : Nat) (n : Int32) (l4 : Option Value), a + m = 64 → G MX5_told (2, 47) 135 [some (.ref 28), some (.int x), some (.int n), some (.int (nI a)), l4] [] (wRf Γ τ S) 0 0 Q := by
  intro m
  induction m with
  | zero =>
    intro a n l4 hi
    obtain rfl : a = 64 := by omega
    refine g_iload_n dX5_told_135 rfl rfl ?_
    refine g_bipush (v := 64) dX5_told_136 (by decide) ?_
    refine g_icmp_ge (tgt := 181) dX5_told_138 (by decide) (fun c138 => ?_) (fun c138 => ?_)
    · exact kk _ _
    · exact absurd (show (64 : Int32) ≤ nI 64 by decide) c138
  | succ m ih =>
    intro a n l4 hi
    refine g_iload_n dX5_told_135 rfl rfl ?_
    refine g_bipush (v := 64) dX5_told_136 (by decide) ?_
    refine g_icmp_ge (tgt := 181) dX5_told_138 (by decide) (fun c138 => ?_) (fun c138 => ?_)
    · exact absurd c138 (nI_ge (b := 64) (by omega) (by decide))
    · refine g_iconst (v := 0) dX5_told_141 (by decide) ?_
      refine g_istore dX5_told_142 (by decide) ?_
      refine ln_told2 S x a (by omega) (fun n9 => ?_) 64 0 _ rfl
      refine g_iinc dX5_told_175 rfl (by decide) (by first | exact gi_1 _ | exact gi_p _) ?_
      refine g_goto (tgt := 135) dX5_told_178 (by decide) ?_
      exact ih (a + 1) _ _ (by omega)
set_option maxRecDepth 100000 in
set_option maxHeartbeats 400000 in
theorem lb_told (S : gS) (x : Int32) (V c : Nat) (h : Mr S V c) (t : Nat) (hR : RI S t) (tv : Int32) (htv : ¬ tv ≤ 0) : G MX5_told (2, 47) 30 [some (.ref 28), some (.int x), none, none, none] [] (wRf Γ τ (mS S 28 0 tv)) 0 0 (gN (wRf Γ τ) fun v S' => (∃ r : Int32, v = .int r) ∧ RI S' (t + 1)) := by
  refine g_aload_n dX5_told_30 rfl rfl ?_
  refine g_get dX5_told_31 flX5_75 rfl rfl ?_
  rw [mS_same]
  refine g_if_le (tgt := 39) dX5_told_34 (by decide) (fun c34 => ?_) (fun c34 => ?_)
  · exact absurd c34 htv
  · refine g_iconst (v := 0) dX5_told_37 (by decide) ?_
    refine g_iret dX5_told_38 rfl ⟨_, _, rfl, rfl, ?_⟩
    exact ⟨⟨_, rfl⟩, hR.th _⟩
set_option maxRecDepth 100000 in
set_option maxHeartbeats 400000 in
theorem lg_told (S : gS) (x : Int32) (V c : Nat) (h : Mr S V c) (t : Nat) (hR : RI S t) : G MX5_told (2, 47) 30 [some (.ref 28), some (.int x), none, none, none] [] (wRf Γ τ (mS S 28 0 0)) 0 0 (gN (wRf Γ τ) fun v S' => (∃ r : Int32, v = .int r) ∧ RI S' (t + 1)) := by
  refine g_aload_n dX5_told_30 rfl rfl ?_
  refine g_get dX5_told_31 flX5_75 rfl rfl ?_
  rw [mS_same]
  refine g_if_le (tgt := 39) dX5_told_34 (by decide) (fun c34 => ?_) (fun c34 => ?_)
  · refine g_iload_n dX5_told_39 rfl rfl ?_
    refine g_if_ne (tgt := 48) dX5_told_40 (by decide) (fun c40 => ?_) (fun c40 => ?_)
    · refine g_iload_n dX5_told_48 rfl rfl ?_
      refine g_iconst (v := 1) dX5_told_49 (by decide) ?_
      refine g_icmp_ne (tgt := 58) dX5_told_50 (by decide) (fun c50 => ?_) (fun c50 => ?_)
      · refine g_iload_n dX5_told_58 rfl rfl ?_
        refine g_iconst (v := 2) dX5_told_59 (by decide) ?_
        refine g_icmp_ne (tgt := 68) dX5_told_60 (by decide) (fun c60 => ?_) (fun c60 => ?_)
        · refine g_iload_n dX5_told_68 rfl rfl ?_
          refine g_iconst (v := 3) dX5_told_69 (by decide) ?_
          refine g_icmp_ne (tgt := 78) dX5_told_70 (by decide) (fun c70 => ?_) (fun c70 => ?_)
          · refine g_iload_n dX5_told_78 rfl rfl ?_
            refine g_iconst (v := 4) dX5_told_79 (by decide) ?_
            refine g_icmp_ne (tgt := 88) dX5_told_80 (by decide) (fun c80 => ?_) (fun c80 => ?_)
            · refine g_iload_n dX5_told_88 rfl rfl ?_
              refine g_iconst (v := 5) dX5_told_89 (by decide) ?_
              refine g_icmp_ne (tgt := 98) dX5_told_90 (by decide) (fun c90 => ?_) (fun c90 => ?_)
              · refine g_iload_n dX5_told_98 rfl rfl ?_
                refine g_bipush (v := 7) dX5_told_99 (by decide) ?_
                refine g_icmp_ne (tgt := 109) dX5_told_101 (by decide) (fun c101 => ?_) (fun c101 => ?_)
                · refine g_iload_n dX5_told_109 rfl rfl ?_
                  refine g_bipush (v := 8) dX5_told_110 (by decide) ?_
                  refine g_icmp_ne (tgt := 120) dX5_told_112 (by decide) (fun c112 => ?_) (fun c112 => ?_)
                  · refine g_iload_n dX5_told_120 rfl rfl ?_
                    refine g_bipush (v := 9) dX5_told_121 (by decide) ?_
                    refine g_icmp_ne (tgt := 131) dX5_told_123 (by decide) (fun c123 => ?_) (fun c123 => ?_)
                    · refine g_iconst (v := 0) dX5_told_131 (by decide) ?_
                      refine g_istore_n dX5_told_132 rfl (by decide) ?_
                      refine g_iconst (v := 0) dX5_told_133 (by decide) ?_
                      refine g_istore_n dX5_told_134 rfl (by decide) ?_
                      refine ln_told1 _ x (fun n9 l4 => ?_) 64 0 _ _ rfl
                      refine g_iload_n dX5_told_181 rfl rfl ?_
                      refine g_iret dX5_told_182 rfl ⟨_, _, rfl, rfl, ?_⟩
                      exact ⟨⟨_, rfl⟩, hR.th _⟩
                    · refine g_aload_n dX5_told_126 rfl rfl ?_
                      refine g_get dX5_told_127 flX5_85 rfl rfl ?_
                      refine g_iret dX5_told_130 rfl ⟨_, _, rfl, rfl, ?_⟩
                      exact ⟨⟨_, rfl⟩, hR.th _⟩
                  · refine g_aload_n dX5_told_115 rfl rfl ?_
                    refine g_get dX5_told_116 flX5_101 rfl rfl ?_
                    refine g_iret dX5_told_119 rfl ⟨_, _, rfl, rfl, ?_⟩
                    exact ⟨⟨_, rfl⟩, hR.th _⟩
                · refine g_aload_n dX5_told_104 rfl rfl ?_
                  refine cV0N (fun _ _ => rfl) dX5_told_105 mlX5_184 imX5_namedMany seX5_namedMany rfl rfl (n_namedMany _ V (h.t 0).1 h.2.1) (by decide) (Nat.le_of_ble_eq_true rfl) (Nat.le_of_ble_eq_true rfl) (Nat.le_of_ble_eq_true rfl) ?_
                  rintro _ _ ⟨⟨nm, rfl⟩, rfl⟩
                  refine g_iret dX5_told_108 rfl ⟨_, _, rfl, rfl, ?_⟩
                  exact ⟨⟨_, rfl⟩, hR.th _⟩
              · refine g_aload_n dX5_told_93 rfl rfl ?_
                refine g_get dX5_told_94 flX5_88 rfl rfl ?_
                refine g_iret dX5_told_97 rfl ⟨_, _, rfl, rfl, ?_⟩
                exact ⟨⟨_, rfl⟩, hR.th _⟩
            · refine g_aload_n dX5_told_83 rfl rfl ?_
              refine g_get dX5_told_84 flX5_104 rfl rfl ?_
              refine g_iret dX5_told_87 rfl ⟨_, _, rfl, rfl, ?_⟩
              exact ⟨⟨_, rfl⟩, hR.th _⟩
          · refine g_aload_n dX5_told_73 rfl rfl ?_
            refine g_get dX5_told_74 flX5_98 rfl rfl ?_
            refine g_iret dX5_told_77 rfl ⟨_, _, rfl, rfl, ?_⟩
            exact ⟨⟨_, rfl⟩, hR.th _⟩
        · refine g_aload_n dX5_told_63 rfl rfl ?_
          refine g_get dX5_told_64 flX5_113 rfl rfl ?_
          refine g_iret dX5_told_67 rfl ⟨_, _, rfl, rfl, ?_⟩
          exact ⟨⟨_, rfl⟩, hR.th _⟩
      · refine g_aload_n dX5_told_53 rfl rfl ?_
        refine g_get dX5_told_54 flX5_110 rfl rfl ?_
        refine g_iret dX5_told_57 rfl ⟨_, _, rfl, rfl, ?_⟩
        exact ⟨⟨_, rfl⟩, hR.th _⟩
    · refine g_aload_n dX5_told_43 rfl rfl ?_
      refine cV0N (fun _ _ => rfl) dX5_told_44 mlX5_196 imX5_thereMany seX5_thereMany rfl rfl (n_thereMany _ V (h.t 0).1 h.2.1) (by decide) (Nat.le_of_ble_eq_true rfl) (Nat.le_of_ble_eq_true rfl) (Nat.le_of_ble_eq_true rfl) ?_
      rintro _ _ ⟨⟨tm, rfl⟩, rfl⟩
      refine g_iret dX5_told_47 rfl ⟨_, _, rfl, rfl, ?_⟩
      exact ⟨⟨_, rfl⟩, hR.th _⟩
  · exact absurd (by decide) c34
set_option maxRecDepth 100000 in
set_option maxHeartbeats 400000 in
theorem n_told (S : gS) (x : Int32) (V c : Nat) (h : Mr S V c) (t : Nat) (hR : RI S t) : gCt MX5_told (2, 47) 0 0 [.ref 28, .int x] (wRf Γ τ S) (gN (wRf Γ τ) fun v S' => (∃ r : Int32, v = .int r) ∧ RI S' (t + 1)) := by
  refine gCt.of (ls := [some (.ref 28), some (.int x), none, none, none]) 3 (by decide) rfl (Nat.le_of_ble_eq_true rfl) ?_
  refine g_aload_n dX5_told_0 rfl rfl ?_
  refine g_aload_n dX5_told_1 rfl rfl ?_
  refine g_get dX5_told_2 flX5_94 rfl rfl ?_
  refine g_if_ne (tgt := 12) dX5_told_5 (by decide) (fun c5 => ?_) (fun c5 => ?_)
  · refine g_iload_n dX5_told_12 rfl rfl ?_
    refine g_iconst (v := 0) dX5_told_13 (by decide) ?_
    refine g_bipush (v := 9) dX5_told_14 (by decide) ?_
    refine cS3N (fun _ _ => rfl) dX5_told_16 mlX5_133 isX5_in (m_in _ _ _ _) (by decide) (Nat.le_of_ble_eq_true rfl) (Nat.le_of_ble_eq_true rfl) (Nat.le_of_ble_eq_true rfl) ?_
    rintro _ _ ⟨rfl, rfl⟩
    refine g_if_ne (tgt := 26) dX5_told_19 (by decide) (fun c19 => ?_) (fun c19 => ?_)
    · refine g_iconst (v := 0) dX5_told_26 (by decide) ?_
      refine p_put dX5_told_27 fpX5_75 rfl (Nat.le_of_ble_eq_true rfl) (fun _ => rfl) (fun _ => rfl) (by with_reducible first | exact wS_28_0 _ _ _ _) ?_
      exact lg_told S x V c h t hR
    · refine g_iconst (v := 2) dX5_told_22 (by decide) ?_
      refine g_goto (tgt := 27) dX5_told_23 (by decide) ?_
      refine p_put dX5_told_27 fpX5_75 rfl (Nat.le_of_ble_eq_true rfl) (fun _ => rfl) (fun _ => rfl) (by with_reducible first | exact wS_28_0 _ _ _ _) ?_
      exact lb_told S x V c h t hR 2 (by decide)
  · refine g_iconst (v := 1) dX5_told_8 (by decide) ?_
    refine g_goto (tgt := 27) dX5_told_9 (by decide) ?_
    refine p_put dX5_told_27 fpX5_75 rfl (Nat.le_of_ble_eq_true rfl) (fun _ => rfl) (fun _ => rfl) (by with_reducible first | exact wS_28_0 _ _ _ _) ?_
    exact lb_told S x V c h t hR 1 (by decide)
end
