section
variable {Γ : gS} {τ : gW}
set_option maxRecDepth 100000 in
set_option maxHeartbeats 4000000 in
theorem m_find (S : gS) (x : Int32) (f : Fm S) : gCt MX5_find (0, 0) 0 0 [.ref 28, .int x] (wRf Γ τ S) (gN (wRf Γ τ) fun v S' => v = .int (-1) ∧ S = S') := by
  refine gCt.of (ls := [some (.ref 28), some (.int x), none, none]) 2 (by decide) rfl (Nat.le_of_ble_eq_true rfl) ?_
  refine g_iconst (v := 0) dX5_find_0 (by decide) ?_
  refine g_istore_n dX5_find_1 rfl (by decide) ?_
  refine g_iload_n dX5_find_2 rfl rfl ?_
  refine g_aload_n dX5_find_3 rfl rfl ?_
  refine g_get dX5_find_4 flX5_110 rfl rfl ?_
  refine g_icmp_ge (tgt := 70) dX5_find_7 (by decide) (fun c7 => ?_) (fun c7 => ?_)
  · refine g_iconst (v := (-1)) dX5_find_70 (by decide) ?_
    refine g_iret dX5_find_71 rfl ⟨_, _, rfl, rfl, ?_⟩
    exact ⟨rfl, rfl⟩
  · exact absurd (show (S.1 28 16) ≤ 0 by rw [f.vs]; decide) c7
theorem ix64 {c k : Nat} (hc : c < 8) (hk : k < 8) : vp_in (8 * nI c + nI k) 64 := ix_8 (by omega) (by decide)
theorem cl64 {c k : Nat} (hc : c < 8) (hk : k < 8) : (8 * nI c + nI k).toNatClampNeg = 8 * c + k := by
  rw [show (8 : Int32) = nI 8 from rfl, pk_mul, nI_add]; exact nI_clamp (by omega)
set_option maxRecDepth 100000 in
set_option maxHeartbeats 4000000 in
theorem lm_earl (S : gS) (g : Nat) (hg : g < 8) (f : Fm S) : ∀ (m i : Nat), i + m = 8 → G MX5_earlier (0, 0) 12 [some (.ref 28), some (.int (nI g)), some (.int (nI 0)), some (.int 1), some (.int (nI i))] [] (wRf Γ τ S) 0 0 (gN (wRf Γ τ) fun v S' => v = .int 0 ∧ S = S') := by
  intro m
  induction m with
  | zero =>
    intro i hi
    obtain rfl : i = 8 := by omega
    refine g_iload dX5_earlier_12 rfl ?_
    refine g_bipush (v := 8) dX5_earlier_14 (by decide) ?_
    refine g_icmp_ge (tgt := 63) dX5_earlier_16 (by decide) (fun c16 => ?_) (fun c16 => ?_)
    · refine g_iload_n dX5_earlier_63 rfl rfl ?_
      refine g_if_eq (tgt := 69) dX5_earlier_64 (by decide) (fun c64 => ?_) (fun c64 => ?_)
      · exact absurd c64 (by decide)
      · refine g_iload_n dX5_earlier_67 rfl rfl ?_
        refine g_iret dX5_earlier_68 rfl ⟨_, _, rfl, rfl, ?_⟩
        exact ⟨rfl, rfl⟩
    · exact absurd (show (8 : Int32) ≤ nI 8 by decide) c16
  | succ m ih =>
    intro i hi
    refine g_iload dX5_earlier_12 rfl ?_
    refine g_bipush (v := 8) dX5_earlier_14 (by decide) ?_
    refine g_icmp_ge (tgt := 63) dX5_earlier_16 (by decide) (fun c16 => ?_) (fun c16 => ?_)
    · exact absurd c16 (nI_ge (b := 8) (by omega) (by decide))
    · refine g_iload_n dX5_earlier_19 rfl rfl ?_
      refine g_if_eq (tgt := 55) dX5_earlier_20 (by decide) (fun c20 => ?_) (fun c20 => ?_)
      · first | exact absurd c20 (by decide) | exact absurd (by rw [cl64 (by omega) (by omega), cl64 (by omega) (by omega), f.nw _ (by omega), f.nw _ (by omega)]; decide) c48
      · refine g_aload_n dX5_earlier_23 rfl rfl ?_
        refine g_get dX5_earlier_24 flX5_20 rfl rfl ?_
        refine g_bipush (v := 8) dX5_earlier_27 (by decide) ?_
        refine g_iload_n dX5_earlier_29 rfl rfl ?_
        refine g_imul dX5_earlier_30 ?_
        refine g_iload dX5_earlier_31 rfl ?_
        refine g_iadd dX5_earlier_33 ?_
        refine g_lald dX5_earlier_34 rfl (ix64 (c := 0) (by decide) (by omega)) ?_
        refine g_aload_n dX5_earlier_35 rfl rfl ?_
        refine g_get dX5_earlier_36 flX5_20 rfl rfl ?_
        refine g_bipush (v := 8) dX5_earlier_39 (by decide) ?_
        refine g_iload_n dX5_earlier_41 rfl rfl ?_
        refine g_imul dX5_earlier_42 ?_
        refine g_iload dX5_earlier_43 rfl ?_
        refine g_iadd dX5_earlier_45 ?_
        refine g_lald dX5_earlier_46 rfl (ix64 hg (by omega)) ?_
        refine g_lcmp dX5_earlier_47 ?_
        refine g_if_ne (tgt := 55) dX5_earlier_48 (by decide) (fun c48 => ?_) (fun c48 => ?_)
        · first | exact absurd c20 (by decide) | exact absurd (by rw [cl64 (by omega) (by omega), cl64 (by omega) (by omega), f.nw _ (by omega), f.nw _ (by omega)]; decide) c48
        · refine g_iconst (v := 1) dX5_earlier_51 (by decide) ?_
          refine g_goto (tgt := 56) dX5_earlier_52 (by decide) ?_
          refine g_istore_n dX5_earlier_56 rfl (by decide) ?_
          refine g_iinc dX5_earlier_57 rfl (by decide) (by first | exact gi_1 _ | exact gi_p _) ?_
          refine g_goto (tgt := 12) dX5_earlier_60 (by decide) ?_
          exact ih (i + 1) (by omega)
set_option maxRecDepth 100000 in
set_option maxHeartbeats 4000000 in
theorem m_earlier0 (S : gS) : gCt MX5_earlier (0, 0) 0 0 [.ref 28, .int (nI 0)] (wRf Γ τ S) (gN (wRf Γ τ) fun v S' => v = .int (-1) ∧ S = S') := by
  refine gCt.of (ls := [some (.ref 28), some (.int (nI 0)), none, none, none]) 3 (by decide) rfl (Nat.le_of_ble_eq_true rfl) ?_
  refine g_iconst (v := 0) dX5_earlier_0 (by decide) ?_
  refine g_istore_n dX5_earlier_1 rfl (by decide) ?_
  refine g_iload_n dX5_earlier_2 rfl rfl ?_
  refine g_iload_n dX5_earlier_3 rfl rfl ?_
  refine g_icmp_ge (tgt := 75) dX5_earlier_4 (by decide) (fun c4 => ?_) (fun c4 => ?_)
  · refine g_iconst (v := (-1)) dX5_earlier_75 (by decide) ?_
    refine g_iret dX5_earlier_76 rfl ⟨_, _, rfl, rfl, ?_⟩
    exact ⟨rfl, rfl⟩
  · exact absurd (Int32.le_refl _) c4
set_option maxRecDepth 100000 in
set_option maxHeartbeats 4000000 in
theorem m_earlierS (S : gS) (g : Nat) (hg : g < 8) (h0 : 0 < g) (f : Fm S) : gCt MX5_earlier (0, 0) 0 0 [.ref 28, .int (nI g)] (wRf Γ τ S) (gN (wRf Γ τ) fun v S' => v = .int 0 ∧ S = S') := by
  refine gCt.of (ls := [some (.ref 28), some (.int (nI g)), none, none, none]) 3 (by decide) rfl (Nat.le_of_ble_eq_true rfl) ?_
  refine g_iconst (v := 0) dX5_earlier_0 (by decide) ?_
  refine g_istore_n dX5_earlier_1 rfl (by decide) ?_
  refine g_iload_n dX5_earlier_2 rfl rfl ?_
  refine g_iload_n dX5_earlier_3 rfl rfl ?_
  refine g_icmp_ge (tgt := 75) dX5_earlier_4 (by decide) (fun c4 => ?_) (fun c4 => ?_)
  · exact absurd c4 (nI_ge (a := 0) (b := g) h0 (by omega))
  · refine g_iconst (v := 1) dX5_earlier_7 (by decide) ?_
    refine g_istore_n dX5_earlier_8 rfl (by decide) ?_
    refine g_iconst (v := 0) dX5_earlier_9 (by decide) ?_
    refine g_istore dX5_earlier_10 (by decide) ?_
    exact lm_earl S g hg f 8 0 rfl
set_option maxRecDepth 100000 in
set_option maxHeartbeats 4000000 in
theorem m_leastFree (S : gS) (f : Fm S) : gCt MX5_leastFree (1, 25) 0 0 [.ref 28, .int (nI 0)] (wRf Γ τ S) (gN (wRf Γ τ) fun v S' => v = .int 0 ∧ S = S') := by
  refine gCt.of (ls := [some (.ref 28), some (.int (nI 0)), none, none, none]) 3 (by decide) rfl (Nat.le_of_ble_eq_true rfl) ?_
  refine g_iconst (v := 0) dX5_leastFree_0 (by decide) ?_
  refine g_istore_n dX5_leastFree_1 rfl (by decide) ?_
  refine g_iconst (v := 1) dX5_leastFree_2 (by decide) ?_
  refine g_istore_n dX5_leastFree_3 rfl (by decide) ?_
  refine g_iload_n dX5_leastFree_4 rfl rfl ?_
  refine g_if_eq (tgt := 83) dX5_leastFree_5 (by decide) (fun c5 => ?_) (fun c5 => ?_)
  · exact absurd c5 (by decide)
  · refine g_aload_n dX5_leastFree_8 rfl rfl ?_
    refine g_iload_n dX5_leastFree_9 rfl rfl ?_
    refine cV1N (fun _ _ => rfl) dX5_leastFree_10 mlX5_145 imX5_namedBy seX5_namedBy rfl rfl (m_namedBy _ _ f) (by decide) (Nat.le_of_ble_eq_true rfl) (Nat.le_of_ble_eq_true rfl) (Nat.le_of_ble_eq_true rfl) ?_
    rintro _ _ ⟨rfl, rfl⟩
    refine g_if_le (tgt := 20) dX5_leastFree_13 (by decide) (fun c13 => ?_) (fun c13 => ?_)
    · refine g_iconst (v := 0) dX5_leastFree_20 (by decide) ?_
      refine g_istore_n dX5_leastFree_21 rfl (by decide) ?_
      refine g_iconst (v := 0) dX5_leastFree_22 (by decide) ?_
      refine g_istore dX5_leastFree_23 (by decide) ?_
      refine g_iload dX5_leastFree_25 rfl ?_
      refine g_iload_n dX5_leastFree_27 rfl rfl ?_
      refine g_icmp_ge (tgt := 68) dX5_leastFree_28 (by decide) (fun c28 => ?_) (fun c28 => ?_)
      · refine g_iload_n dX5_leastFree_68 rfl rfl ?_
        refine g_iload_n dX5_leastFree_69 rfl rfl ?_
        refine g_if_eq (tgt := 77) dX5_leastFree_70 (by decide) (fun c70 => ?_) (fun c70 => ?_)
        · refine g_iconst (v := 0) dX5_leastFree_77 (by decide) ?_
          refine g_iadd dX5_leastFree_78 ?_
          refine g_istore_n dX5_leastFree_79 rfl (by decide) ?_
          refine g_goto (tgt := 4) dX5_leastFree_80 (by decide) ?_
          refine g_iload_n dX5_leastFree_4 rfl rfl ?_
          refine g_if_eq (tgt := 83) dX5_leastFree_5 (by decide) (fun c5 => ?_) (fun c5 => ?_)
          · refine g_iload_n dX5_leastFree_83 rfl rfl ?_
            refine g_iret dX5_leastFree_84 rfl ⟨_, _, rfl, rfl, ?_⟩
            exact ⟨rfl, rfl⟩
          · exact absurd rfl c5
        · exact absurd rfl c70
      · exact absurd (Int32.le_refl _) c28
    · exact absurd (by decide) c13
def VI (S0 T : gS) (i : Nat) (b : Int32) : Prop := (T.1 = S0.1 ∧ T.2.2 = S0.2.2 ∧ ∀ k, k ≠ 39 → k ≠ 40 → T.2.1 k = S0.2.1 k) ∧ (i = 0 → b = 28) ∧ (0 < i → b = 104 ∧ T.2.1 39 0 = 0 ∧ T.2.1 40 0 = 1 ∧ ∀ j, 0 < j → j < i → T.2.1 40 j = 0)
theorem VI.f {S0 T : gS} {i : Nat} {b : Int32} (h : VI S0 T i b) (f : Fm S0) : Fm T := by
  unfold Fm
  rw [h.1.1, h.1.2.1, h.1.2.2 33 (by decide) (by decide), h.1.2.2 29 (by decide) (by decide)]
  exact f
theorem rb (S : gS) (a k : Nat) (F : Nat → Int32) (v : Int32) : (mA S a (upd F k v)).2.1 a k = v := by
  have : (mA S a (upd F k v)).2.1 a = upd F k v := by simp [mA]
  rw [this, pk_us]
theorem rb2 (S : gS) (a c k : Nat) (F G9 : Nat → Int32) (v : Int32) (h : a ≠ c) : (mA (mA S a (upd F k v)) c G9).2.1 a k = v := by
  have : (mA (mA S a (upd F k v)) c G9).2.1 a = (mA S a (upd F k v)).2.1 a := by simp [mA, h]
  rw [this, rb]
theorem mAk (S : gS) (a k : Nat) (F : Nat → Int32) (h : k ≠ a) : (mA S a F).2.1 k = S.2.1 k := by simp [mA, h]
theorem mAs (S : gS) (a : Nat) (F : Nat → Int32) : (mA S a F).2.1 a = F := by simp [mA]
set_option maxRecDepth 100000 in
set_option maxHeartbeats 4000000 in
theorem lv_0 (S0 T : gS) (f : Fm S0) (hT : VI S0 T 0 28) {Q : gR → gW → Prop} (kk : ∀ (T' : gS) (l3 : Option Value), VI S0 T' 1 104 → G MX5_version (3, 89) 42 [some (.ref 28), some (.int 104), some (.int (nI 1)), l3, none] [] (wRf Γ τ T') 0 0 Q) : G MX5_version (3, 89) 42 [some (.ref 28), some (.int 28), some (.int (nI 0)), none, none] [] (wRf Γ τ T) 0 0 Q := by
  refine g_iload_n dX5_version_42 rfl rfl ?_
  refine g_bipush (v := 8) dX5_version_43 (by decide) ?_
  refine g_icmp_ge (tgt := 155) dX5_version_45 (by decide) (fun c45 => ?_) (fun c45 => ?_)
  · exact absurd c45 (nI_ge (b := 8) (a := 0) (by decide) (by decide))
  · refine g_aload_n dX5_version_48 rfl rfl ?_
    refine g_get dX5_version_49 flX5_44 rfl rfl ?_
    refine g_iload_n dX5_version_52 rfl rfl ?_
    refine g_aload_n dX5_version_53 rfl rfl ?_
    refine g_iload_n dX5_version_54 rfl rfl ?_
    refine cV1N (fun _ _ => rfl) dX5_version_55 mlX5_169 imX5_find seX5_find rfl rfl (m_find _ _ (hT.f f)) (by decide) (Nat.le_of_ble_eq_true rfl) (Nat.le_of_ble_eq_true rfl) (Nat.le_of_ble_eq_true rfl) ?_
    rintro _ _ ⟨rfl, rfl⟩
    refine p_iast dX5_version_58 rfl (vp_in_nI (by omega) (by decide)) (by with_reducible first | exact wA_39 _ _ _ _ | exact wA_40 _ _ _ _) ?_
    refine g_aload_n dX5_version_59 rfl rfl ?_
    refine g_get dX5_version_60 flX5_47 rfl rfl ?_
    refine g_iload_n dX5_version_63 rfl rfl ?_
    refine g_iconst (v := 0) dX5_version_64 (by decide) ?_
    refine p_zast dX5_version_65 rfl (vp_in_nI (by omega) (by decide)) (by with_reducible first | exact wA_39 _ _ _ _ | exact wA_40 _ _ _ _) ?_
    refine g_aload_n dX5_version_66 rfl rfl ?_
    refine g_iload_n dX5_version_67 rfl rfl ?_
    refine cV1N (fun _ _ => rfl) dX5_version_68 mlX5_172 imX5_earlier seX5_earlier rfl rfl (m_earlier0 _) (by decide) (Nat.le_of_ble_eq_true rfl) (Nat.le_of_ble_eq_true rfl) (Nat.le_of_ble_eq_true rfl) ?_
    rintro _ _ ⟨rfl, rfl⟩
    refine g_istore_n dX5_version_71 rfl (by decide) ?_
    refine g_aload_n dX5_version_72 rfl rfl ?_
    refine g_get dX5_version_73 flX5_44 rfl rfl ?_
    refine g_iload_n dX5_version_76 rfl rfl ?_
    refine g_iald dX5_version_77 rfl (vp_in_nI (by omega) (by decide)) ?_
    refine g_eqi (y := -1) (rb2 _ _ _ _ _ _ _ (by decide)) ?_
    refine g_iconst (v := (-1)) dX5_version_78 (by decide) ?_
    refine g_icmp_ne (tgt := 99) dX5_version_79 (by decide) (fun c79 => ?_) (fun c79 => ?_)
    · exact absurd rfl c79
    · refine g_iload_n dX5_version_82 rfl rfl ?_
      refine g_iconst (v := (-1)) dX5_version_83 (by decide) ?_
      refine g_icmp_eq (tgt := 99) dX5_version_84 (by decide) (fun c84 => ?_) (fun c84 => ?_)
      · refine g_aload_n dX5_version_99 rfl rfl ?_
        refine g_get dX5_version_100 flX5_44 rfl rfl ?_
        refine g_iload_n dX5_version_103 rfl rfl ?_
        refine g_iald dX5_version_104 rfl (vp_in_nI (by omega) (by decide)) ?_
        refine g_eqi (y := -1) (rb2 _ _ _ _ _ _ _ (by decide)) ?_
        refine g_iconst (v := (-1)) dX5_version_105 (by decide) ?_
        refine g_icmp_eq (tgt := 112) dX5_version_106 (by decide) (fun c106 => ?_) (fun c106 => ?_)
        · refine g_aload_n dX5_version_112 rfl rfl ?_
          refine g_get dX5_version_113 flX5_44 rfl rfl ?_
          refine g_iload_n dX5_version_116 rfl rfl ?_
          refine g_aload_n dX5_version_117 rfl rfl ?_
          refine g_iload_n dX5_version_118 rfl rfl ?_
          refine cV1N (fun _ _ => rfl) dX5_version_119 mlX5_175 imX5_leastFree seX5_leastFree rfl rfl (m_leastFree _ (show Fm T from hT.f f)) (by decide) (Nat.le_of_ble_eq_true rfl) (Nat.le_of_ble_eq_true rfl) (Nat.le_of_ble_eq_true rfl) ?_
          rintro _ _ ⟨rfl, rfl⟩
          refine p_iast dX5_version_122 rfl (vp_in_nI (by omega) (by decide)) (by with_reducible first | exact wA_39 _ _ _ _ | exact wA_40 _ _ _ _) ?_
          refine g_aload_n dX5_version_123 rfl rfl ?_
          refine g_get dX5_version_124 flX5_47 rfl rfl ?_
          refine g_iload_n dX5_version_127 rfl rfl ?_
          refine g_iconst (v := 1) dX5_version_128 (by decide) ?_
          refine p_zast dX5_version_129 rfl (vp_in_nI (by omega) (by decide)) (by with_reducible first | exact wA_39 _ _ _ _ | exact wA_40 _ _ _ _) ?_
          refine g_iinc dX5_version_130 rfl (by decide) rfl ?_
          refine g_aload_n dX5_version_133 rfl rfl ?_
          refine g_get dX5_version_134 flX5_44 rfl rfl ?_
          refine g_iload_n dX5_version_137 rfl rfl ?_
          refine g_iald dX5_version_138 rfl (vp_in_nI (by omega) (by decide)) ?_
          refine g_eqi (y := 0) (rb2 _ _ _ _ _ _ _ (by decide)) ?_
          refine g_aload_n dX5_version_139 rfl rfl ?_
          refine g_get dX5_version_140 flX5_79 rfl rfl ?_
          refine g_icmp_lt (tgt := 149) dX5_version_143 (by decide) (fun c143 => ?_) (fun c143 => ?_)
          · refine g_iinc dX5_version_149 rfl (by decide) (by first | exact gi_1 _ | exact gi_p _) ?_
            refine g_goto (tgt := 42) dX5_version_152 (by decide) ?_
            refine kk _ _ ⟨⟨hT.1.1, hT.1.2.1, fun k h1 h2 => ?_⟩, fun z => absurd z (by decide), fun _ => ⟨rfl, ?_, ?_, fun j h1 h2 => absurd h2 (by omega)⟩⟩
            · rw [mAk _ _ _ _ h2, mAk _ _ _ _ h1, mAk _ _ _ _ h2, mAk _ _ _ _ h1]; exact hT.1.2.2 k h1 h2
            · exact rb2 _ 39 40 0 _ _ 0 (by decide)
            · exact rb _ 40 0 _ 1
          · exact absurd (by show (0 : Int32) < T.1 28 1; rw [hT.1.1, f.rm]; decide) c143
        · exact absurd rfl c106
      · exact absurd rfl c84
set_option maxRecDepth 100000 in
set_option maxHeartbeats 4000000 in
theorem lv_s (S0 T : gS) (i : Nat) (h0 : 0 < i) (hi8 : i < 8) (l3 : Option Value) (f : Fm S0) (hT : VI S0 T i 104) {Q : gR → gW → Prop} (kk : ∀ (T' : gS) (l3 : Option Value), VI S0 T' (i + 1) 104 → G MX5_version (3, 89) 42 [some (.ref 28), some (.int 104), some (.int (nI (i + 1))), l3, none] [] (wRf Γ τ T') 0 0 Q) : G MX5_version (3, 89) 42 [some (.ref 28), some (.int 104), some (.int (nI i)), l3, none] [] (wRf Γ τ T) 0 0 Q := by
  refine g_iload_n dX5_version_42 rfl rfl ?_
  refine g_bipush (v := 8) dX5_version_43 (by decide) ?_
  refine g_icmp_ge (tgt := 155) dX5_version_45 (by decide) (fun c45 => ?_) (fun c45 => ?_)
  · exact absurd c45 (nI_ge (b := 8) hi8 (by decide))
  · refine g_aload_n dX5_version_48 rfl rfl ?_
    refine g_get dX5_version_49 flX5_44 rfl rfl ?_
    refine g_iload_n dX5_version_52 rfl rfl ?_
    refine g_aload_n dX5_version_53 rfl rfl ?_
    refine g_iload_n dX5_version_54 rfl rfl ?_
    refine cV1N (fun _ _ => rfl) dX5_version_55 mlX5_169 imX5_find seX5_find rfl rfl (m_find _ _ (hT.f f)) (by decide) (Nat.le_of_ble_eq_true rfl) (Nat.le_of_ble_eq_true rfl) (Nat.le_of_ble_eq_true rfl) ?_
    rintro _ _ ⟨rfl, rfl⟩
    refine p_iast dX5_version_58 rfl (vp_in_nI (by omega) (by decide)) (by with_reducible first | exact wA_39 _ _ _ _ | exact wA_40 _ _ _ _) ?_
    refine g_aload_n dX5_version_59 rfl rfl ?_
    refine g_get dX5_version_60 flX5_47 rfl rfl ?_
    refine g_iload_n dX5_version_63 rfl rfl ?_
    refine g_iconst (v := 0) dX5_version_64 (by decide) ?_
    refine p_zast dX5_version_65 rfl (vp_in_nI (by omega) (by decide)) (by with_reducible first | exact wA_39 _ _ _ _ | exact wA_40 _ _ _ _) ?_
    refine g_aload_n dX5_version_66 rfl rfl ?_
    refine g_iload_n dX5_version_67 rfl rfl ?_
    refine cV1N (fun _ _ => rfl) dX5_version_68 mlX5_172 imX5_earlier seX5_earlier rfl rfl (m_earlierS _ i hi8 h0 (show Fm T from hT.f f)) (by decide) (Nat.le_of_ble_eq_true rfl) (Nat.le_of_ble_eq_true rfl) (Nat.le_of_ble_eq_true rfl) ?_
    rintro _ _ ⟨rfl, rfl⟩
    refine g_istore_n dX5_version_71 rfl (by decide) ?_
    refine g_aload_n dX5_version_72 rfl rfl ?_
    refine g_get dX5_version_73 flX5_44 rfl rfl ?_
    refine g_iload_n dX5_version_76 rfl rfl ?_
    refine g_iald dX5_version_77 rfl (vp_in_nI (by omega) (by decide)) ?_
    refine g_eqi (y := -1) (rb2 _ _ _ _ _ _ _ (by decide)) ?_
    refine g_iconst (v := (-1)) dX5_version_78 (by decide) ?_
    refine g_icmp_ne (tgt := 99) dX5_version_79 (by decide) (fun c79 => ?_) (fun c79 => ?_)
    · exact absurd rfl c79
    · refine g_iload_n dX5_version_82 rfl rfl ?_
      refine g_iconst (v := (-1)) dX5_version_83 (by decide) ?_
      refine g_icmp_eq (tgt := 99) dX5_version_84 (by decide) (fun c84 => ?_) (fun c84 => ?_)
      · exact absurd c84 (by decide)
      · refine g_aload_n dX5_version_87 rfl rfl ?_
        refine g_get dX5_version_88 flX5_44 rfl rfl ?_
        refine g_iload_n dX5_version_91 rfl rfl ?_
        refine g_aload_n dX5_version_92 rfl rfl ?_
        refine g_get dX5_version_93 flX5_44 rfl rfl ?_
        refine g_iload_n dX5_version_96 rfl rfl ?_
        refine g_iald dX5_version_97 rfl (vp_in_nI (n := 0) (by decide) (by decide)) ?_
        refine g_eqi (y := 0) (by rw [nI_clamp (n := i) (by omega), mAk _ _ _ _ (by decide), mAs]; show upd (T.2.1 39) i (-1) 0 = 0; rw [pk_un (by omega)]; exact (hT.2.2 h0).2.1) ?_
        refine p_iast dX5_version_98 rfl (vp_in_nI (by omega) (by decide)) (by with_reducible first | exact wA_39 _ _ _ _ | exact wA_40 _ _ _ _) ?_
        refine g_aload_n dX5_version_99 rfl rfl ?_
        refine g_get dX5_version_100 flX5_44 rfl rfl ?_
        refine g_iload_n dX5_version_103 rfl rfl ?_
        refine g_iald dX5_version_104 rfl (vp_in_nI (by omega) (by decide)) ?_
        refine g_eqi (y := 0) (rb _ _ _ _ _) ?_
        refine g_iconst (v := (-1)) dX5_version_105 (by decide) ?_
        refine g_icmp_eq (tgt := 112) dX5_version_106 (by decide) (fun c106 => ?_) (fun c106 => ?_)
        · exact absurd c106 (by decide)
        · refine g_goto (tgt := 149) dX5_version_109 (by decide) ?_
          refine g_iinc dX5_version_149 rfl (by decide) (by first | exact gi_1 _ | exact gi_p _) ?_
          refine g_goto (tgt := 42) dX5_version_152 (by decide) ?_
          refine kk _ _ ⟨⟨hT.1.1, hT.1.2.1, fun k h1 h2 => ?_⟩, fun z => absurd z (by omega), fun _ => ⟨rfl, ?_, ?_, fun j h1 h2 => ?_⟩⟩
          · rw [mAk _ _ _ _ h1, mAk _ _ _ _ h2, mAk _ _ _ _ h1]; exact hT.1.2.2 k h1 h2
          · rw [mAs, nI_clamp (n := i) (by omega), pk_un (by omega), mAk _ _ _ _ (by decide), mAs, pk_un (by omega)]; exact (hT.2.2 h0).2.1
          · rw [mAk _ _ _ _ (by decide), mAs, nI_clamp (n := i) (by omega), pk_un (by omega), mAk _ _ _ _ (by decide)]; exact (hT.2.2 h0).2.2.1
          · rw [mAk _ _ _ _ (by decide), mAs, nI_clamp (n := i) (by omega), mAk _ _ _ _ (by decide)]
            by_cases e : j = i
            · rw [e, pk_us]; rfl
            · rw [pk_un e]; exact (hT.2.2 h0).2.2.2 j h1 (by omega)
set_option maxRecDepth 100000 in
set_option maxHeartbeats 4000000 in
theorem lv_1 (S0 : gS) (f : Fm S0) {Q : gR → gW → Prop} (kk : ∀ (T : gS) (l3 : Option Value), VI S0 T 8 104 → G MX5_version (3, 89) 155 [some (.ref 28), some (.int 104), some (.int (nI 8)), l3, none] [] (wRf Γ τ T) 0 0 Q) : ∀ (m i : Nat) (T : gS) (l3 : Option Value), i + m = 8 → 0 < i → VI S0 T i 104 → G MX5_version (3, 89) 42 [some (.ref 28), some (.int 104), some (.int (nI i)), l3, none] [] (wRf Γ τ T) 0 0 Q := by
  intro m
  induction m with
  | zero =>
    intro i T l3 hi h0 hT
    obtain rfl : i = 8 := by omega
    refine g_iload_n dX5_version_42 rfl rfl ?_
    refine g_bipush (v := 8) dX5_version_43 (by decide) ?_
    refine g_icmp_ge (tgt := 155) dX5_version_45 (by decide) (fun c45 => ?_) (fun c45 => ?_)
    · exact kk T l3 hT
    · exact absurd (show (8 : Int32) ≤ nI 8 by decide) c45
  | succ m ih =>
    intro i T l3 hi h0 hT
    exact lv_s S0 T i h0 (by omega) l3 f hT (fun T' l => ih (i + 1) T' l (by omega) (by omega))
set_option maxRecDepth 100000 in
set_option maxHeartbeats 4000000 in
theorem lw_2 (U : gS) (l3 l4 : Option Value) (hU : ∀ j, 0 < j → j < 8 → U.2.1 40 j = 0) {Q : gR → gW → Prop} (kk : G MX5_version (3, 89) 253 [some (.ref 28), some (.int 104), some (.int (nI 8)), l3, l4] [] (wRf Γ τ U) 0 0 Q) : ∀ (m i : Nat), i + m = 8 → 0 < i → G MX5_version (3, 89) 168 [some (.ref 28), some (.int 104), some (.int (nI i)), l3, l4] [] (wRf Γ τ U) 0 0 Q := by
  intro m
  induction m with
  | zero =>
    intro i hi h0
    obtain rfl : i = 8 := by omega
    refine g_iload_n dX5_version_168 rfl rfl ?_
    refine g_bipush (v := 8) dX5_version_169 (by decide) ?_
    refine g_icmp_ge (tgt := 253) dX5_version_171 (by decide) (fun c171 => ?_) (fun c171 => ?_)
    · exact kk
    · exact absurd (show (8 : Int32) ≤ nI 8 by decide) c171
  | succ m ih =>
    intro i hi h0
    refine g_iload_n dX5_version_168 rfl rfl ?_
    refine g_bipush (v := 8) dX5_version_169 (by decide) ?_
    refine g_icmp_ge (tgt := 253) dX5_version_171 (by decide) (fun c171 => ?_) (fun c171 => ?_)
    · exact absurd c171 (nI_ge (b := 8) (by omega) (by decide))
    · refine g_aload_n dX5_version_174 rfl rfl ?_
      refine g_get dX5_version_175 flX5_47 rfl rfl ?_
      refine g_iload_n dX5_version_178 rfl rfl ?_
      refine g_zald dX5_version_179 rfl (vp_in_nI (by omega) (by decide)) ?_
      refine g_if_ne (tgt := 186) dX5_version_180 (by decide) (fun c180 => ?_) (fun c180 => ?_)
      · exact absurd (by rw [nI_clamp (by omega)]; exact hU i h0 (by omega)) c180
      · refine g_goto (tgt := 247) dX5_version_183 (by decide) ?_
        refine g_iinc dX5_version_247 rfl (by decide) (by first | exact gi_1 _ | exact gi_p _) ?_
        refine g_goto (tgt := 168) dX5_version_250 (by decide) ?_
        exact ih (i + 1) (by omega) (by omega)
set_option maxRecDepth 100000 in
set_option maxHeartbeats 4000000 in
theorem lw_3 (U : gS) (l4 : Option Value) (hL : U.1 28 9 = nI 76) (h0 : U.1 28 0 = 0) (hV : U.1 28 16 = nI 0) : ∀ (m g : Nat) (S : gS) (D : Nat → Int32), g + m = 8 → (Mw U S 76 (80 + 2 * g) D ∧ D 108 = 3) → G MX5_version (3, 89) 267 [some (.ref 28), some (.int 104), some (.int (nI 112)), some (.int (nI g)), l4] [] (wRf Γ τ S) 0 0 (gN (wRf Γ τ) fun v S' => v = .int 0 ∧ S'.1 28 0 = 0) := by
  intro m
  induction m with
  | zero =>
    intro g S D hi hS
    obtain rfl : g = 8 := by omega
    refine g_iload_n dX5_version_267 rfl rfl ?_
    refine g_bipush (v := 8) dX5_version_268 (by decide) ?_
    refine g_icmp_ge (tgt := 296) dX5_version_270 (by decide) (fun c270 => ?_) (fun c270 => ?_)
    · have hl9 : S.1 28 9 = nI 76 := (hS.1.2.2.1 9 (by decide)).trans hL
      have h09 : S.1 28 0 = 0 := (hS.1.2.2.1 0 (by decide)).trans h0
      have hv9 : S.1 28 16 = nI 0 := (hS.1.2.2.1 16 (by decide)).trans hV
      refine g_aload_n dX5_version_296 rfl rfl ?_
      refine g_bipush (v := 16) dX5_version_297 (by decide) ?_
      refine cV10 (fun _ _ => rfl) dX5_version_299 mlX5_163 imX5_end seX5_end rfl rfl (m_end _ 76 96 16 (fun S' => S'.1 28 0 = 0 ∧ S'.1 28 16 = nI 1) hl9 (by decide) hS.1.1 (by decide) (fun S5 hS5 => (m_take3 S5 108 16 (by decide) 0 rfl ((hS5.2.2.1 16 (by decide)).trans hv9) (by decide) (by rw [hS5.2.1, mput_lt _ _ _ _ (by decide), hS.1.2.1]; exact hS.2)).mono (fun r9 w9 h9 => by obtain ⟨S9, q1, q2, q3, q4⟩ := h9; exact ⟨S9, q1, q2, q3.trans ((hS5.2.2.1 0 (by decide)).trans h09), q4⟩))) (by decide) (Nat.le_of_ble_eq_true rfl) (Nat.le_of_ble_eq_true rfl) (Nat.le_of_ble_eq_true rfl) ?_
      rintro S6 hS6
      refine g_aload_n dX5_version_302 rfl rfl ?_
      refine g_get dX5_version_303 flX5_110 rfl rfl ?_
      refine g_iconst (v := 1) dX5_version_306 (by decide) ?_
      refine g_isub dX5_version_307 ?_
      refine g_iret dX5_version_308 rfl ⟨_, _, rfl, rfl, ?_⟩
      exact ⟨by rw [hS6.2]; rfl, hS6.1⟩
    · exact absurd (show (8 : Int32) ≤ nI 8 by decide) c270
  | succ m ih =>
    intro g S D hi hS
    refine g_iload_n dX5_version_267 rfl rfl ?_
    refine g_bipush (v := 8) dX5_version_268 (by decide) ?_
    refine g_icmp_ge (tgt := 296) dX5_version_270 (by decide) (fun c270 => ?_) (fun c270 => ?_)
    · exact absurd c270 (nI_ge (b := 8) (by omega) (by decide))
    · refine g_aload_n dX5_version_273 rfl rfl ?_
      refine g_iload_n dX5_version_274 rfl rfl ?_
      refine g_iconst (v := 2) dX5_version_275 (by decide) ?_
      refine g_iload_n dX5_version_276 rfl rfl ?_
      refine g_imul dX5_version_277 ?_
      refine g_iadd dX5_version_278 ?_
      refine g_eqi (y := nI (112 + 2 * g)) (by rw [show (2 : Int32) = nI 2 from rfl, pk_mul, nI_add]) ?_
      refine g_aload_n dX5_version_279 rfl rfl ?_
      refine g_get dX5_version_280 flX5_44 rfl rfl ?_
      refine g_iload_n dX5_version_283 rfl rfl ?_
      refine g_iald dX5_version_284 rfl (vp_in_nI (by omega) (by decide)) ?_
      refine g_i2l dX5_version_285 ?_
      refine g_iconst (v := 2) dX5_version_286 (by decide) ?_
      refine cV30 (fun _ _ => rfl) dX5_version_287 mlX5_122 imX5_putNumber seX5_putNumber rfl rfl (m_putNumber _ _ (112 + 2 * g) 2 (80 + 2 * g) (by omega) (by omega) hS.1.1) (by decide) (Nat.le_of_ble_eq_true rfl) (Nat.le_of_ble_eq_true rfl) (Nat.le_of_ble_eq_true rfl) ?_
      rintro S1 hS1
      refine g_iinc dX5_version_290 rfl (by decide) (by first | exact gi_1 _ | exact gi_p _) ?_
      refine g_goto (tgt := 267) dX5_version_293 (by decide) ?_
      have h9 := hS.1.tr hS1
      refine ih (g + 1) S1 _ (by omega) ⟨h9, ?_⟩
      rw [mput_lt _ _ _ _ (by omega), hS.1.2.1]; exact hS.2
set_option maxRecDepth 100000 in
set_option maxHeartbeats 4000000 in
theorem lw_253 (U : gS) (l2 l3 l4 : Option Value) (hL : U.1 28 9 = nI 76) (hW : U.1 28 7 = nI 76) (h0 : U.1 28 0 = 0) (hV : U.1 28 16 = nI 0) : G MX5_version (3, 89) 253 [some (.ref 28), some (.int 104), l2, l3, l4] [] (wRf Γ τ U) 0 0 (gN (wRf Γ τ) fun v S' => v = .int 0 ∧ S'.1 28 0 = 0) := by
  refine g_aload_n dX5_version_253 rfl rfl ?_
  refine g_iconst (v := 3) dX5_version_254 (by decide) ?_
  refine g_aload_n dX5_version_255 rfl rfl ?_
  refine g_get dX5_version_256 flX5_110 rfl rfl ?_
  refine g_bipush (v := 16) dX5_version_259 (by decide) ?_
  refine cV3N (fun _ _ => rfl) dX5_version_261 mlX5_159 imX5_begin_ seX5_begin_ rfl rfl (m_begin_ _ 76 76 _ _ _ hL (by decide) hW (by decide)) (by decide) (Nat.le_of_ble_eq_true rfl) (Nat.le_of_ble_eq_true rfl) (Nat.le_of_ble_eq_true rfl) ?_
  rintro _ S1 ⟨rfl, hS1⟩
  refine g_istore_n dX5_version_264 rfl (by decide) ?_
  refine g_iconst (v := 0) dX5_version_265 (by decide) ?_
  refine g_istore_n dX5_version_266 rfl (by decide) ?_
  exact lw_3 U l4 hL h0 hV 8 0 S1 _ rfl ⟨hS1, mhead_0 _ _ _ _ _⟩
def IQ (D : Nat → Int32) : Prop := D 32 = 1 ∧ D 33 = 0 ∧ D 34 = 0
theorem IQ.h (D : Nat → Int32) : IQ (mhead D 32 1 0 64) := ⟨rfl, rfl, rfl⟩
theorem IQ.p {D : Nat → Int32} (h : IQ D) (a : Nat) (v : Int64) (n k : Nat) (ha : 35 ≤ a) : IQ (mput D a v n k) := ⟨(mput_lt _ _ _ _ (by omega) _).trans h.1, (mput_lt _ _ _ _ (by omega) _).trans h.2.1, (mput_lt _ _ _ _ (by omega) _).trans h.2.2⟩
theorem IQ.q {D : Nat → Int32} (h : IQ D) : (mnum D (32 + 1) 2).toInt32 = nI 0 := by
  show ((((0 : Int64) <<< ((8 : Int32).toInt64 &&& 63)) ||| (D 33).toInt64) <<< ((8 : Int32).toInt64 &&& 63) ||| (D 34).toInt64).toInt32 = nI 0
  rw [h.2.1, h.2.2]
  decide
set_option maxRecDepth 100000 in
set_option maxHeartbeats 4000000 in
theorem lw_in (T : gS) (f : Fm T) (hz : T.1 28 0 = 0) (h40 : ∀ j, 0 < j → j < 8 → T.2.1 40 j = 0) : ∀ (m k : Nat) (S : gS) (D : Nat → Int32), k + m = 8 → (Mw T S 0 (4 + 8 * k) D ∧ IQ D) → G MX5_version (3, 89) 203 [some (.ref 28), some (.int 104), some (.int (nI 0)), some (.int (nI 36)), some (.int (nI k))] [] (wRf Γ τ S) 0 0 (gN (wRf Γ τ) fun v S' => v = .int 0 ∧ S'.1 28 0 = 0) := by
  intro m
  induction m with
  | zero =>
    intro k S D hi hS
    obtain rfl : k = 8 := by omega
    refine g_iload dX5_version_203 rfl ?_
    refine g_bipush (v := 8) dX5_version_205 (by decide) ?_
    refine g_icmp_ge (tgt := 241) dX5_version_207 (by decide) (fun c207 => ?_) (fun c207 => ?_)
    · have hl9 : S.1 28 9 = nI 0 := (hS.1.2.2.1 9 (by decide)).trans f.lg
      refine g_aload_n dX5_version_241 rfl rfl ?_
      refine g_bipush (v := 64) dX5_version_242 (by decide) ?_
      refine cV10 (fun _ _ => rfl) dX5_version_244 mlX5_163 imX5_end seX5_end rfl rfl (m_end _ 0 68 64 (fun S' => S'.1 28 0 = 0 ∧ S'.1 28 7 = nI 76 ∧ S'.1 28 9 = nI 76 ∧ S'.1 28 16 = nI 0 ∧ S'.2.1 40 = T.2.1 40) hl9 (by decide) hS.1.1 (by decide) (fun S5 hS5 => (m_take1 S5 32 64 (by decide) 0 0 0 rfl ((hS5.2.2.1 9 (by decide)).trans hl9) ((hS5.2.2.1 14 (by decide)).trans ((hS.1.2.2.1 14 (by decide)).trans f.cc)) (by decide) (by rw [hS5.2.1, hS.1.2.1]; exact (hS.2.p _ _ _ _ (by decide)).1) (by rw [hS5.2.1, hS.1.2.1]; exact (hS.2.p _ _ _ _ (by decide)).q) (by decide)).mono (fun r9 w9 h9 => by obtain ⟨S9, q1, q2, q3, q4, q5, q6, q7, q8⟩ := h9; exact ⟨S9, q1, q2, (q3 0 (by decide) (by decide) (by decide)).trans ((hS5.2.2.1 0 (by decide)).trans ((hS.1.2.2.1 0 (by decide)).trans hz)), (q3 7 (by decide) (by decide) (by decide)).trans hS5.1, q4, (q3 16 (by decide) (by decide) (by decide)).trans ((hS5.2.2.1 16 (by decide)).trans ((hS.1.2.2.1 16 (by decide)).trans f.vs)), (q6 40 (by decide)).trans ((hS5.2.2.2.2.1 40 (by decide)).trans (hS.1.2.2.2.2.1 40 (by decide)))⟩))) (by decide) (Nat.le_of_ble_eq_true rfl) (Nat.le_of_ble_eq_true rfl) (Nat.le_of_ble_eq_true rfl) ?_
      rintro S6 ⟨g0, g7, g9, g16, g40⟩
      refine g_iinc dX5_version_247 rfl (by decide) (by first | exact gi_1 _ | exact gi_p _) ?_
      refine g_goto (tgt := 168) dX5_version_250 (by decide) ?_
      exact lw_2 S6 _ _ (fun j h1 h2 => by rw [g40]; exact h40 j h1 h2) (lw_253 S6 _ _ _ g9 g7 g0 g16) 7 1 rfl (by decide)
    · exact absurd (show (8 : Int32) ≤ nI 8 by decide) c207
  | succ m ih =>
    intro k S D hi hS
    refine g_iload dX5_version_203 rfl ?_
    refine g_bipush (v := 8) dX5_version_205 (by decide) ?_
    refine g_icmp_ge (tgt := 241) dX5_version_207 (by decide) (fun c207 => ?_) (fun c207 => ?_)
    · exact absurd c207 (nI_ge (b := 8) (by omega) (by decide))
    · refine g_aload_n dX5_version_210 rfl rfl ?_
      refine g_iload_n dX5_version_211 rfl rfl ?_
      refine g_bipush (v := 8) dX5_version_212 (by decide) ?_
      refine g_iload dX5_version_214 rfl ?_
      refine g_imul dX5_version_216 ?_
      refine g_iadd dX5_version_217 ?_
      refine g_eqi (y := nI (36 + 8 * k)) (by rw [show (8 : Int32) = nI 8 from rfl, pk_mul, nI_add]) ?_
      refine g_aload_n dX5_version_218 rfl rfl ?_
      refine g_get dX5_version_219 flX5_20 rfl rfl ?_
      refine g_bipush (v := 8) dX5_version_222 (by decide) ?_
      refine g_iload_n dX5_version_224 rfl rfl ?_
      refine g_imul dX5_version_225 ?_
      refine g_iload dX5_version_226 rfl ?_
      refine g_iadd dX5_version_228 ?_
      refine g_lald dX5_version_229 rfl (ix64 (c := 0) (by decide) (by omega)) ?_
      refine g_bipush (v := 8) dX5_version_230 (by decide) ?_
      refine cV30 (fun _ _ => rfl) dX5_version_232 mlX5_122 imX5_putNumber seX5_putNumber rfl rfl (m_putNumber _ _ (36 + 8 * k) 8 (4 + 8 * k) (by omega) (by omega) hS.1.1) (by decide) (Nat.le_of_ble_eq_true rfl) (Nat.le_of_ble_eq_true rfl) (Nat.le_of_ble_eq_true rfl) ?_
      rintro S1 hS1
      refine g_iinc dX5_version_235 rfl (by decide) (by first | exact gi_1 _ | exact gi_p _) ?_
      refine g_goto (tgt := 203) dX5_version_238 (by decide) ?_
      have h9 := hS.1.tr hS1
      refine ih (k + 1) S1 _ (by omega) ⟨h9, ?_⟩
      rw [hS.1.2.1]; exact hS.2.p _ _ _ _ (by omega)
set_option maxRecDepth 100000 in
set_option maxHeartbeats 4000000 in
theorem lw_155 (S0 T : gS) (l2 l3 l4 : Option Value) (f : Fm S0) (hz : S0.1 28 0 = 0) (hT : VI S0 T 8 104) : G MX5_version (3, 89) 155 [some (.ref 28), some (.int 104), l2, l3, l4] [] (wRf Γ τ T) 0 0 (gN (wRf Γ τ) fun v S' => v = .int 0 ∧ S'.1 28 0 = 0) := by
  refine g_aload_n dX5_version_155 rfl rfl ?_
  refine g_iload_n dX5_version_156 rfl rfl ?_
  refine cV1N (fun _ _ => rfl) dX5_version_157 mlX5_156 imX5_fits seX5_fits rfl rfl (m_fits _ _) (by decide) (Nat.le_of_ble_eq_true rfl) (Nat.le_of_ble_eq_true rfl) (Nat.le_of_ble_eq_true rfl) ?_
  rintro _ _ ⟨rfl, rfl⟩
  refine g_if_ne (tgt := 166) dX5_version_160 (by decide) (fun c160 => ?_) (fun c160 => ?_)
  · refine g_iconst (v := 0) dX5_version_166 (by decide) ?_
    refine g_istore_n dX5_version_167 rfl (by decide) ?_
    refine g_iload_n dX5_version_168 rfl rfl ?_
    refine g_bipush (v := 8) dX5_version_169 (by decide) ?_
    refine g_icmp_ge (tgt := 253) dX5_version_171 (by decide) (fun c171 => ?_) (fun c171 => ?_)
    · exact absurd c171 (nI_ge (b := 8) (a := 0) (by decide) (by decide))
    · refine g_aload_n dX5_version_174 rfl rfl ?_
      refine g_get dX5_version_175 flX5_47 rfl rfl ?_
      refine g_iload_n dX5_version_178 rfl rfl ?_
      refine g_zald dX5_version_179 rfl (vp_in_nI (n := 0) (by decide) (by decide)) ?_
      refine g_if_ne (tgt := 186) dX5_version_180 (by decide) (fun c180 => ?_) (fun c180 => ?_)
      · refine g_aload_n dX5_version_186 rfl rfl ?_
        refine g_iconst (v := 1) dX5_version_187 (by decide) ?_
        refine g_aload_n dX5_version_188 rfl rfl ?_
        refine g_get dX5_version_189 flX5_44 rfl rfl ?_
        refine g_iload_n dX5_version_192 rfl rfl ?_
        refine g_iald dX5_version_193 rfl (vp_in_nI (n := 0) (by decide) (by decide)) ?_
        refine g_eqi (y := 0) ((hT.2.2 (by decide)).2.1) ?_
        refine g_bipush (v := 64) dX5_version_194 (by decide) ?_
        refine cV3N (fun _ _ => rfl) dX5_version_196 mlX5_159 imX5_begin_ seX5_begin_ rfl rfl (m_begin_ _ 0 0 _ _ _ (hT.f f).lg (by decide) (hT.f f).wr (by decide)) (by decide) (Nat.le_of_ble_eq_true rfl) (Nat.le_of_ble_eq_true rfl) (Nat.le_of_ble_eq_true rfl) ?_
        rintro _ S1 ⟨rfl, hS1⟩
        refine g_istore_n dX5_version_199 rfl (by decide) ?_
        refine g_iconst (v := 0) dX5_version_200 (by decide) ?_
        refine g_istore dX5_version_201 (by decide) ?_
        exact lw_in T (hT.f f) (by rw [hT.1.1]; exact hz) (hT.2.2 (by decide)).2.2.2 8 0 S1 _ rfl ⟨hS1, IQ.h _⟩
      · exact absurd c180 (by show ¬ T.2.1 40 0 = 0; rw [(hT.2.2 (by decide)).2.2.1]; decide)
  · exact absurd c160 (by rw [if_neg (by show ¬ 24000 < T.1 28 9 + 104; rw [(hT.f f).lg]; decide)]; decide)
set_option maxRecDepth 100000 in
set_option maxHeartbeats 4000000 in
theorem m_version (S : gS) (f : Fm S) : gCt MX5_version (3, 89) 0 0 [.ref 28] (wRf Γ τ S) (gN (wRf Γ τ) fun v S' => v = .int 0 ∧ S'.1 28 0 = 0) := by
  refine gCt.of (ls := [some (.ref 28), none, none, none, none]) 4 (by decide) rfl (Nat.le_of_ble_eq_true rfl) ?_
  refine g_aload_n dX5_version_0 rfl rfl ?_
  refine g_aload_n dX5_version_1 rfl rfl ?_
  refine g_get dX5_version_2 flX5_94 rfl rfl ?_
  refine g_if_eq (tgt := 12) dX5_version_5 (by decide) (fun c5 => ?_) (fun c5 => ?_)
  · exact absurd c5 (by rw [f.op]; decide)
  · refine g_iconst (v := 0) dX5_version_8 (by decide) ?_
    refine g_goto (tgt := 13) dX5_version_9 (by decide) ?_
    refine p_put dX5_version_13 fpX5_75 rfl (Nat.le_of_ble_eq_true rfl) (fun _ => rfl) (fun _ => rfl) (by with_reducible first | exact wS_28_0 _ _ _ _) ?_
    refine g_aload_n dX5_version_16 rfl rfl ?_
    refine g_get dX5_version_17 flX5_75 rfl rfl ?_
    rw [mS_same]
    refine g_if_le (tgt := 25) dX5_version_20 (by decide) (fun c20 => ?_) (fun c20 => ?_)
    · refine g_aload_n dX5_version_25 rfl rfl ?_
      refine g_get dX5_version_26 flX5_110 rfl rfl ?_
      refine g_bipush (v := 100) dX5_version_29 (by decide) ?_
      refine g_icmp_ne (tgt := 37) dX5_version_31 (by decide) (fun c31 => ?_) (fun c31 => ?_)
      · refine g_bipush (v := 28) dX5_version_37 (by decide) ?_
        refine g_istore_n dX5_version_39 rfl (by decide) ?_
        refine g_iconst (v := 0) dX5_version_40 (by decide) ?_
        refine g_istore_n dX5_version_41 rfl (by decide) ?_
        exact lv_0 (mS S 28 0 0) _ (f.t 0) ⟨⟨rfl, rfl, fun _ _ _ => rfl⟩, fun _ => rfl, fun z => absurd z (by decide)⟩ (fun T' l h => lv_1 (mS S 28 0 0) (f.t 0) (fun T l3 hT => lw_155 (mS S 28 0 0) T _ _ _ (f.t 0) (mS_same _ _ _ _) hT) 7 1 T' l rfl (by decide) h)
      · exact absurd c31 (by rw [mS_ne (by decide), f.vs]; decide)
    · exact absurd (by decide) c20
end
