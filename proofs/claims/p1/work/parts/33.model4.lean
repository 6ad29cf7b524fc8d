section
variable {Γ : gS} {τ : gW}
theorem and255 : ∀ i : Fin 64, nI i.val &&& 255 = nI i.val := by decide +kernel
theorem mput_lt (f : Nat → Int32) (a : Nat) (v : Int64) (n : Nat) {j : Nat} (h : j < a) : ∀ k, mput f a v n k j = f j := by
  intro k
  induction k with
  | zero => rfl
  | succ k ih => show upd (mput f a v n k) (a + k) (mbyte v n k) j = f j; rw [pk_un (by omega)]; exact ih
theorem mput_ge (f : Nat → Int32) (a : Nat) (v : Int64) (n : Nat) {j : Nat} : ∀ k, a + k ≤ j → mput f a v n k j = f j := by
  intro k
  induction k with
  | zero => intro _; rfl
  | succ k ih => intro h; show upd (mput f a v n k) (a + k) (mbyte v n k) j = f j; rw [pk_un (by omega)]; exact ih (by omega)
theorem mhead_0 (f : Nat → Int32) (a : Nat) (x y z : Int32) : mhead f a x y z a = x &&& 255 := by
  unfold mhead
  rw [pk_un (by omega), mput_lt _ _ _ _ (by omega), pk_us]
theorem cmp_z (s : UInt64) : ¬ lg_cmp (((0 : Int64).toUInt64 >>> s).toInt64 &&& 1) 1 = 0 := by rw [sh0]; decide
set_option maxRecDepth 100000 in
set_option maxHeartbeats 4000000 in
theorem m_isThere (S : gS) (x : Int32) (f : Fm S) : gCt MX5_isThere (1, 22) 0 0 [.ref 28, .int x] (wRf Γ τ S) (gN (wRf Γ τ) fun v S' => v = .int 0 ∧ S = S') := by
  refine gCt.of (ls := [some (.ref 28), some (.int x)]) 0 (by decide) rfl (Nat.le_of_ble_eq_true rfl) ?_
  refine g_iload_n dX5_isThere_0 rfl rfl ?_
  refine g_iconst (v := 0) dX5_isThere_1 (by decide) ?_
  refine g_aload_n dX5_isThere_2 rfl rfl ?_
  refine g_get dX5_isThere_3 flX5_110 rfl rfl ?_
  refine g_iconst (v := 1) dX5_isThere_6 (by decide) ?_
  refine g_isub dX5_isThere_7 ?_
  refine g_eqi (y := nI 0 - 1) (by rw [f.vs]) ?_
  refine cS3N (fun _ _ => rfl) dX5_isThere_8 mlX5_133 isX5_in (m_in _ _ _ _) (by decide) (Nat.le_of_ble_eq_true rfl) (Nat.le_of_ble_eq_true rfl) (Nat.le_of_ble_eq_true rfl) ?_
  rintro _ _ ⟨rfl, rfl⟩
  refine g_if_eq (tgt := 27) dX5_isThere_11 (by decide) (fun c11 => ?_) (fun c11 => ?_)
  · refine g_iconst (v := 0) dX5_isThere_27 (by decide) ?_
    refine g_zret dX5_isThere_28 rfl (by first | rfl | assumption) ⟨_, _, rfl, rfl, ?_⟩
    exact ⟨rfl, rfl⟩
  · exact absurd (inm1 x) c11
set_option maxRecDepth 100000 in
set_option maxHeartbeats 4000000 in
theorem m_isVersion (S : gS) (x : Int32) (f : Fm S) : gCt MX5_isVersion (2, 43) 0 0 [.ref 28, .int x] (wRf Γ τ S) (gN (wRf Γ τ) fun v S' => v = .int (if x = -1 then 1 else 0) ∧ S = S') := by
  refine gCt.of (ls := [some (.ref 28), some (.int x)]) 0 (by decide) rfl (Nat.le_of_ble_eq_true rfl) ?_
  refine g_iload_n dX5_isVersion_0 rfl rfl ?_
  refine g_iconst (v := (-1)) dX5_isVersion_1 (by decide) ?_
  refine g_icmp_eq (tgt := 13) dX5_isVersion_2 (by decide) (fun c2 => ?_) (fun c2 => ?_)
  · refine g_iconst (v := 1) dX5_isVersion_13 (by decide) ?_
    refine g_goto (tgt := 18) dX5_isVersion_14 (by decide) ?_
    refine g_zret dX5_isVersion_18 rfl (by first | rfl | assumption) ⟨_, _, rfl, rfl, ?_⟩
    first | exact absurd rfl c10 | exact ⟨by rw [if_pos c2], rfl⟩ | exact ⟨by rw [if_neg c2], rfl⟩
  · refine g_aload_n dX5_isVersion_5 rfl rfl ?_
    refine g_iload_n dX5_isVersion_6 rfl rfl ?_
    refine cV1N (fun _ _ => rfl) dX5_isVersion_7 mlX5_152 imX5_isThere seX5_isThere rfl rfl (m_isThere _ _ f) (by decide) (Nat.le_of_ble_eq_true rfl) (Nat.le_of_ble_eq_true rfl) (Nat.le_of_ble_eq_true rfl) ?_
    rintro _ _ ⟨rfl, rfl⟩
    refine g_if_eq (tgt := 17) dX5_isVersion_10 (by decide) (fun c10 => ?_) (fun c10 => ?_)
    · refine g_iconst (v := 0) dX5_isVersion_17 (by decide) ?_
      refine g_zret dX5_isVersion_18 rfl (by first | rfl | assumption) ⟨_, _, rfl, rfl, ?_⟩
      first | exact absurd rfl c10 | exact ⟨by rw [if_pos c2], rfl⟩ | exact ⟨by rw [if_neg c2], rfl⟩
    · refine g_iconst (v := 1) dX5_isVersion_13 (by decide) ?_
      refine g_goto (tgt := 18) dX5_isVersion_14 (by decide) ?_
      refine g_zret dX5_isVersion_18 rfl (by first | rfl | assumption) ⟨_, _, rfl, rfl, ?_⟩
      first | exact absurd rfl c10 | exact ⟨by rw [if_pos c2], rfl⟩ | exact ⟨by rw [if_neg c2], rfl⟩
set_option maxRecDepth 100000 in
set_option maxHeartbeats 4000000 in
theorem m_edges (S : gS) (a : Nat) (ha : a < 64) (f : Fm S) : gCt MX5_edges (0, 0) 0 0 [.ref 28, .int (-1), .int (nI a)] (wRf Γ τ S) (gN (wRf Γ τ) fun v S' => v = .long 0 ∧ S = S') := by
  refine gCt.of (ls := [some (.ref 28), some (.int (-1)), some (.int (nI a))]) 0 (by decide) rfl (Nat.le_of_ble_eq_true rfl) ?_
  refine g_iload_n dX5_edges_0 rfl rfl ?_
  refine g_iconst (v := (-1)) dX5_edges_1 (by decide) ?_
  refine g_icmp_ne (tgt := 14) dX5_edges_2 (by decide) (fun c2 => ?_) (fun c2 => ?_)
  · exact absurd rfl c2
  · refine g_aload_n dX5_edges_5 rfl rfl ?_
    refine g_get dX5_edges_6 flX5_20 rfl rfl ?_
    refine g_iload_n dX5_edges_9 rfl rfl ?_
    refine g_lald dX5_edges_10 rfl (vp_in_nI ha (by decide)) ?_
    refine g_goto (tgt := 46) dX5_edges_11 (by decide) ?_
    refine g_lret dX5_edges_46 rfl ⟨_, _, rfl, rfl, ?_⟩
    exact ⟨by rw [nI_clamp (by omega), f.nw a ha], rfl⟩
set_option maxRecDepth 100000 in
set_option maxHeartbeats 4000000 in
theorem m_namedBy (S : gS) (x : Int32) (f : Fm S) : gCt MX5_namedBy (0, 0) 0 0 [.ref 28, .int x] (wRf Γ τ S) (gN (wRf Γ τ) fun v S' => v = .int 0 ∧ S = S') := by
  refine gCt.of (ls := [some (.ref 28), some (.int x), none, none, none, none]) 4 (by decide) rfl (Nat.le_of_ble_eq_true rfl) ?_
  refine g_iconst (v := 0) dX5_namedBy_0 (by decide) ?_
  refine g_istore_n dX5_namedBy_1 rfl (by decide) ?_
  refine g_iconst (v := 0) dX5_namedBy_2 (by decide) ?_
  refine g_istore_n dX5_namedBy_3 rfl (by decide) ?_
  refine g_iload_n dX5_namedBy_4 rfl rfl ?_
  refine g_aload_n dX5_namedBy_5 rfl rfl ?_
  refine g_get dX5_namedBy_6 flX5_110 rfl rfl ?_
  refine g_icmp_ge (tgt := 87) dX5_namedBy_9 (by decide) (fun c9 => ?_) (fun c9 => ?_)
  · refine g_iload_n dX5_namedBy_87 rfl rfl ?_
    refine g_iret dX5_namedBy_88 rfl ⟨_, _, rfl, rfl, ?_⟩
    exact ⟨rfl, rfl⟩
  · exact absurd (show (S.1 28 16) ≤ 0 by rw [f.vs]; decide) c9
set_option maxRecDepth 100000 in
set_option maxHeartbeats 4000000 in
theorem m_thereMany (S : gS) (hv : S.1 28 16 = nI 0) : gCt MX5_thereMany (0, 0) 0 0 [.ref 28] (wRf Γ τ S) (gN (wRf Γ τ) fun v S' => v = .int 0 ∧ S = S') := by
  refine gCt.of (ls := [some (.ref 28), none, none]) 2 (by decide) rfl (Nat.le_of_ble_eq_true rfl) ?_
  refine g_iconst (v := 0) dX5_thereMany_0 (by decide) ?_
  refine g_istore_n dX5_thereMany_1 rfl (by decide) ?_
  refine g_iconst (v := 0) dX5_thereMany_2 (by decide) ?_
  refine g_istore_n dX5_thereMany_3 rfl (by decide) ?_
  refine g_iload_n dX5_thereMany_4 rfl rfl ?_
  refine g_aload_n dX5_thereMany_5 rfl rfl ?_
  refine g_get dX5_thereMany_6 flX5_110 rfl rfl ?_
  refine g_icmp_ge (tgt := 35) dX5_thereMany_9 (by decide) (fun c9 => ?_) (fun c9 => ?_)
  · refine g_iload_n dX5_thereMany_35 rfl rfl ?_
    refine g_iret dX5_thereMany_36 rfl ⟨_, _, rfl, rfl, ?_⟩
    exact ⟨rfl, rfl⟩
  · exact absurd (show (S.1 28 16) ≤ 0 by rw [hv]; decide) c9
set_option maxRecDepth 100000 in
set_option maxHeartbeats 4000000 in
theorem lm_namedMany (S : gS) (f : Fm S) : ∀ (m i : Nat), i + m = 65536 → G MX5_namedMany (1, 25) 4 [some (.ref 28), some (.int 0), some (.int (nI i))] [] (wRf Γ τ S) 0 0 (gN (wRf Γ τ) fun v S' => v = .int 0 ∧ S = S') := by
  intro m
  induction m with
  | zero =>
    intro i hi
    obtain rfl : i = 65536 := by omega
    refine g_iload_n dX5_namedMany_4 rfl rfl ?_
    refine g_ldc dX5_namedMany_5 coX5_24 ?_
    refine g_icmp_ge (tgt := 42) dX5_namedMany_7 (by decide) (fun c7 => ?_) (fun c7 => ?_)
    · refine g_iload_n dX5_namedMany_42 rfl rfl ?_
      refine g_iret dX5_namedMany_43 rfl ⟨_, _, rfl, rfl, ?_⟩
      exact ⟨rfl, rfl⟩
    · exact absurd (nI_le (a := 65536) (b := 65536) (Nat.le_refl _) (by decide)) c7
  | succ m ih =>
    intro i hi
    refine g_iload_n dX5_namedMany_4 rfl rfl ?_
    refine g_ldc dX5_namedMany_5 coX5_24 ?_
    refine g_icmp_ge (tgt := 42) dX5_namedMany_7 (by decide) (fun c7 => ?_) (fun c7 => ?_)
    · exact absurd c7 (nI_ge (b := 65536) (by omega) (by decide))
    · refine g_iload_n dX5_namedMany_10 rfl rfl ?_
      refine g_aload_n dX5_namedMany_11 rfl rfl ?_
      refine g_get dX5_namedMany_12 flX5_25 rfl rfl ?_
      refine g_iload_n dX5_namedMany_15 rfl rfl ?_
      refine g_iald dX5_namedMany_16 rfl (vp_in_nI (by omega) (by decide)) ?_
      refine g_iconst (v := (-1)) dX5_namedMany_17 (by decide) ?_
      refine g_icmp_eq (tgt := 33) dX5_namedMany_18 (by decide) (fun c18 => ?_) (fun c18 => ?_)
      · refine g_iconst (v := 0) dX5_namedMany_33 (by decide) ?_
        refine g_iadd dX5_namedMany_34 ?_
        refine g_istore_n dX5_namedMany_35 rfl (by decide) ?_
        refine g_iinc dX5_namedMany_36 rfl (by decide) (by first | exact gi_1 _ | exact gi_p _) ?_
        refine g_goto (tgt := 4) dX5_namedMany_39 (by decide) ?_
        exact ih (i + 1) (by omega)
      · exact absurd (by rw [nI_clamp (by omega)]; exact f.sl i (by omega)) c18
set_option maxRecDepth 100000 in
set_option maxHeartbeats 4000000 in
theorem m_namedMany (S : gS) (f : Fm S) : gCt MX5_namedMany (1, 25) 0 0 [.ref 28] (wRf Γ τ S) (gN (wRf Γ τ) fun v S' => v = .int 0 ∧ S = S') := by
  refine gCt.of (ls := [some (.ref 28), none, none]) 2 (by decide) rfl (Nat.le_of_ble_eq_true rfl) ?_
  refine g_iconst (v := 0) dX5_namedMany_0 (by decide) ?_
  refine g_istore_n dX5_namedMany_1 rfl (by decide) ?_
  refine g_iconst (v := 0) dX5_namedMany_2 (by decide) ?_
  refine g_istore_n dX5_namedMany_3 rfl (by decide) ?_
  exact lm_namedMany S f 65536 0 rfl
set_option maxRecDepth 100000 in
set_option maxHeartbeats 4000000 in
theorem m_answer (S : gS) (x y : Int32) (f : Fm S) : gCt MX5_answer (2, 43) 0 0 [.ref 28, .int x, .int y] (wRf Γ τ S) (gN (wRf Γ τ) fun v S' => ∃ r : Int32, v = .int r ∧ S'.1 28 0 = 2) := by
  refine gCt.of (ls := [some (.ref 28), some (.int x), some (.int y), none]) 1 (by decide) rfl (Nat.le_of_ble_eq_true rfl) ?_
  refine g_aload_n dX5_answer_0 rfl rfl ?_
  refine g_aload_n dX5_answer_1 rfl rfl ?_
  refine g_get dX5_answer_2 flX5_94 rfl rfl ?_
  refine g_if_ne (tgt := 12) dX5_answer_5 (by decide) (fun c5 => ?_) (fun c5 => ?_)
  · refine g_aload_n dX5_answer_12 rfl rfl ?_
    refine g_iload_n dX5_answer_13 rfl rfl ?_
    refine cV1N (fun _ _ => rfl) dX5_answer_14 mlX5_152 imX5_isThere seX5_isThere rfl rfl (m_isThere _ _ f) (by decide) (Nat.le_of_ble_eq_true rfl) (Nat.le_of_ble_eq_true rfl) (Nat.le_of_ble_eq_true rfl) ?_
    rintro _ _ ⟨rfl, rfl⟩
    refine g_if_eq (tgt := 30) dX5_answer_17 (by decide) (fun c17 => ?_) (fun c17 => ?_)
    · refine g_iconst (v := 2) dX5_answer_30 (by decide) ?_
      refine g_goto (tgt := 35) dX5_answer_31 (by decide) ?_
      refine p_put dX5_answer_35 fpX5_75 rfl (Nat.le_of_ble_eq_true rfl) (fun _ => rfl) (fun _ => rfl) (by with_reducible first | exact wS_28_0 _ _ _ _) ?_
      refine g_aload_n dX5_answer_38 rfl rfl ?_
      refine g_get dX5_answer_39 flX5_75 rfl rfl ?_
      rw [mS_same]
      refine g_if_le (tgt := 47) dX5_answer_42 (by decide) (fun c42 => ?_) (fun c42 => ?_)
      · exact absurd c42 (by decide)
      · refine g_iconst (v := 0) dX5_answer_45 (by decide) ?_
        refine g_iret dX5_answer_46 rfl ⟨_, _, rfl, rfl, ?_⟩
        exact ⟨_, rfl, mS_same _ _ _ _⟩
    · exact absurd rfl c17
  · exact absurd c5 (by rw [f.op]; decide)
set_option maxRecDepth 100000 in
set_option maxHeartbeats 4000000 in
theorem m_drop (S : gS) (x : Int32) (f : Fm S) : gCt MX5_drop (2, 43) 0 0 [.ref 28, .int x] (wRf Γ τ S) (gN (wRf Γ τ) fun v S' => ∃ r : Int32, v = .int r ∧ S'.1 28 0 = 2) := by
  refine gCt.of (ls := [some (.ref 28), some (.int x), none]) 1 (by decide) rfl (Nat.le_of_ble_eq_true rfl) ?_
  refine g_aload_n dX5_drop_0 rfl rfl ?_
  refine g_aload_n dX5_drop_1 rfl rfl ?_
  refine g_get dX5_drop_2 flX5_94 rfl rfl ?_
  refine g_if_ne (tgt := 12) dX5_drop_5 (by decide) (fun c5 => ?_) (fun c5 => ?_)
  · refine g_aload_n dX5_drop_12 rfl rfl ?_
    refine g_iload_n dX5_drop_13 rfl rfl ?_
    refine cV1N (fun _ _ => rfl) dX5_drop_14 mlX5_152 imX5_isThere seX5_isThere rfl rfl (m_isThere _ _ f) (by decide) (Nat.le_of_ble_eq_true rfl) (Nat.le_of_ble_eq_true rfl) (Nat.le_of_ble_eq_true rfl) ?_
    rintro _ _ ⟨rfl, rfl⟩
    refine g_if_ne (tgt := 24) dX5_drop_17 (by decide) (fun c17 => ?_) (fun c17 => ?_)
    · exact absurd rfl c17
    · refine g_iconst (v := 2) dX5_drop_20 (by decide) ?_
      refine g_goto (tgt := 25) dX5_drop_21 (by decide) ?_
      refine p_put dX5_drop_25 fpX5_75 rfl (Nat.le_of_ble_eq_true rfl) (fun _ => rfl) (fun _ => rfl) (by with_reducible first | exact wS_28_0 _ _ _ _) ?_
      refine g_aload_n dX5_drop_28 rfl rfl ?_
      refine g_get dX5_drop_29 flX5_75 rfl rfl ?_
      rw [mS_same]
      refine g_if_le (tgt := 37) dX5_drop_32 (by decide) (fun c32 => ?_) (fun c32 => ?_)
      · exact absurd c32 (by decide)
      · refine g_iconst (v := 0) dX5_drop_35 (by decide) ?_
        refine g_iret dX5_drop_36 rfl ⟨_, _, rfl, rfl, ?_⟩
        exact ⟨_, rfl, mS_same _ _ _ _⟩
  · exact absurd c5 (by rw [f.op]; decide)
set_option maxRecDepth 100000 in
set_option maxHeartbeats 4000000 in
theorem m_chunk (S : gS) (x y : Int32) (f : Fm S) : gCt MX5_chunk (2, 43) 0 0 [.ref 28, .int x, .int y] (wRf Γ τ S) (gN (wRf Γ τ) fun v S' => ∃ r : Int32, v = .int r ∧ S'.1 28 0 = 2) := by
  refine gCt.of (ls := [some (.ref 28), some (.int x), some (.int y)]) 0 (by decide) rfl (Nat.le_of_ble_eq_true rfl) ?_
  refine g_aload_n dX5_chunk_0 rfl rfl ?_
  refine g_aload_n dX5_chunk_1 rfl rfl ?_
  refine g_get dX5_chunk_2 flX5_94 rfl rfl ?_
  refine g_if_ne (tgt := 12) dX5_chunk_5 (by decide) (fun c5 => ?_) (fun c5 => ?_)
  · refine g_aload_n dX5_chunk_12 rfl rfl ?_
    refine g_iload_n dX5_chunk_13 rfl rfl ?_
    refine cV1N (fun _ _ => rfl) dX5_chunk_14 mlX5_152 imX5_isThere seX5_isThere rfl rfl (m_isThere _ _ f) (by decide) (Nat.le_of_ble_eq_true rfl) (Nat.le_of_ble_eq_true rfl) (Nat.le_of_ble_eq_true rfl) ?_
    rintro _ _ ⟨rfl, rfl⟩
    refine g_if_eq (tgt := 30) dX5_chunk_17 (by decide) (fun c17 => ?_) (fun c17 => ?_)
    · refine g_iconst (v := 2) dX5_chunk_30 (by decide) ?_
      refine g_goto (tgt := 35) dX5_chunk_31 (by decide) ?_
      refine p_put dX5_chunk_35 fpX5_75 rfl (Nat.le_of_ble_eq_true rfl) (fun _ => rfl) (fun _ => rfl) (by with_reducible first | exact wS_28_0 _ _ _ _) ?_
      refine g_aload_n dX5_chunk_38 rfl rfl ?_
      refine g_get dX5_chunk_39 flX5_75 rfl rfl ?_
      rw [mS_same]
      refine g_if_le (tgt := 49) dX5_chunk_42 (by decide) (fun c42 => ?_) (fun c42 => ?_)
      · exact absurd c42 (by decide)
      · refine g_iconst (v := 0) dX5_chunk_45 (by decide) ?_
        refine g_goto (tgt := 60) dX5_chunk_46 (by decide) ?_
        refine g_iret dX5_chunk_60 rfl ⟨_, _, rfl, rfl, ?_⟩
        exact ⟨_, rfl, mS_same _ _ _ _⟩
    · exact absurd rfl c17
  · exact absurd c5 (by rw [f.op]; decide)
set_option maxRecDepth 100000 in
set_option maxHeartbeats 4000000 in
theorem m_usable (S : gS) (x : Int32) (f : Fm S) : gCt MX5_usable (1, 22) 0 0 [.ref 28, .int x] (wRf Γ τ S) (gN (wRf Γ τ) fun v S' => ∃ r : Int32, v = .int r ∧ S'.1 28 0 = 2) := by
  refine gCt.of (ls := [some (.ref 28), some (.int x)]) 0 (by decide) rfl (Nat.le_of_ble_eq_true rfl) ?_
  refine g_aload_n dX5_usable_0 rfl rfl ?_
  refine g_aload_n dX5_usable_1 rfl rfl ?_
  refine g_get dX5_usable_2 flX5_94 rfl rfl ?_
  refine g_if_ne (tgt := 12) dX5_usable_5 (by decide) (fun c5 => ?_) (fun c5 => ?_)
  · refine g_iload_n dX5_usable_12 rfl rfl ?_
    refine g_iconst (v := 0) dX5_usable_13 (by decide) ?_
    refine g_aload_n dX5_usable_14 rfl rfl ?_
    refine g_get dX5_usable_15 flX5_113 rfl rfl ?_
    refine g_iconst (v := 1) dX5_usable_18 (by decide) ?_
    refine g_isub dX5_usable_19 ?_
    refine g_eqi (y := nI 0 - 1) (by rw [f.an]; rfl) ?_
    refine cS3N (fun _ _ => rfl) dX5_usable_20 mlX5_133 isX5_in (m_in _ _ _ _) (by decide) (Nat.le_of_ble_eq_true rfl) (Nat.le_of_ble_eq_true rfl) (Nat.le_of_ble_eq_true rfl) ?_
    rintro _ _ ⟨rfl, rfl⟩
    refine g_if_ne (tgt := 30) dX5_usable_23 (by decide) (fun c23 => ?_) (fun c23 => ?_)
    · exact absurd (inm1 x) c23
    · refine g_iconst (v := 2) dX5_usable_26 (by decide) ?_
      refine g_goto (tgt := 31) dX5_usable_27 (by decide) ?_
      refine p_put dX5_usable_31 fpX5_75 rfl (Nat.le_of_ble_eq_true rfl) (fun _ => rfl) (fun _ => rfl) (by with_reducible first | exact wS_28_0 _ _ _ _) ?_
      refine g_aload_n dX5_usable_34 rfl rfl ?_
      refine g_get dX5_usable_35 flX5_75 rfl rfl ?_
      rw [mS_same]
      refine g_if_ne (tgt := 58) dX5_usable_38 (by decide) (fun c38 => ?_) (fun c38 => ?_)
      · refine g_iconst (v := 0) dX5_usable_58 (by decide) ?_
        refine g_zret dX5_usable_59 rfl (by first | rfl | assumption) ⟨_, _, rfl, rfl, ?_⟩
        exact ⟨_, rfl, mS_same _ _ _ _⟩
      · exact absurd c38 (by decide)
  · exact absurd c5 (by rw [f.op]; decide)
set_option maxRecDepth 100000 in
set_option maxHeartbeats 4000000 in
theorem m_mask (S : gS) (x : Int32) (f : Fm S) : gCt MX5_mask (1, 22) 0 0 [.ref 28, .int x] (wRf Γ τ S) (gN (wRf Γ τ) fun v S' => ∃ r : Int64, v = .long r ∧ S'.1 28 0 = 2) := by
  refine gCt.of (ls := [some (.ref 28), some (.int x)]) 0 (by decide) rfl (Nat.le_of_ble_eq_true rfl) ?_
  refine g_aload_n dX5_mask_0 rfl rfl ?_
  refine g_aload_n dX5_mask_1 rfl rfl ?_
  refine g_get dX5_mask_2 flX5_94 rfl rfl ?_
  refine g_if_ne (tgt := 12) dX5_mask_5 (by decide) (fun c5 => ?_) (fun c5 => ?_)
  · refine g_iload_n dX5_mask_12 rfl rfl ?_
    refine g_iconst (v := 0) dX5_mask_13 (by decide) ?_
    refine g_aload_n dX5_mask_14 rfl rfl ?_
    refine g_get dX5_mask_15 flX5_113 rfl rfl ?_
    refine g_iconst (v := 1) dX5_mask_18 (by decide) ?_
    refine g_isub dX5_mask_19 ?_
    refine g_eqi (y := nI 0 - 1) (by rw [f.an]; rfl) ?_
    refine cS3N (fun _ _ => rfl) dX5_mask_20 mlX5_133 isX5_in (m_in _ _ _ _) (by decide) (Nat.le_of_ble_eq_true rfl) (Nat.le_of_ble_eq_true rfl) (Nat.le_of_ble_eq_true rfl) ?_
    rintro _ _ ⟨rfl, rfl⟩
    refine g_if_ne (tgt := 30) dX5_mask_23 (by decide) (fun c23 => ?_) (fun c23 => ?_)
    · exact absurd (inm1 x) c23
    · refine g_iconst (v := 2) dX5_mask_26 (by decide) ?_
      refine g_goto (tgt := 31) dX5_mask_27 (by decide) ?_
      refine p_put dX5_mask_31 fpX5_75 rfl (Nat.le_of_ble_eq_true rfl) (fun _ => rfl) (fun _ => rfl) (by with_reducible first | exact wS_28_0 _ _ _ _) ?_
      refine g_aload_n dX5_mask_34 rfl rfl ?_
      refine g_get dX5_mask_35 flX5_75 rfl rfl ?_
      rw [mS_same]
      refine g_if_le (tgt := 45) dX5_mask_38 (by decide) (fun c38 => ?_) (fun c38 => ?_)
      · exact absurd c38 (by decide)
      · refine g_lconst (v := 0) dX5_mask_41 (by decide) ?_
        refine g_goto (tgt := 51) dX5_mask_42 (by decide) ?_
        refine g_lret dX5_mask_51 rfl ⟨_, _, rfl, rfl, ?_⟩
        exact ⟨_, rfl, mS_same _ _ _ _⟩
  · exact absurd c5 (by rw [f.op]; decide)
set_option maxRecDepth 100000 in
set_option maxHeartbeats 4000000 in
theorem lb_has (S : gS) (x y z : Int32) (f : Fm S) (hb : ¬ (x = -1 ∧ inN y ∧ inN z)) : G MX5_has (3, 64) 48 [some (.ref 28), some (.int x), some (.int y), some (.int z)] [] (wRf Γ τ (mS S 28 0 2)) 0 0 (gN (wRf Γ τ) fun v S' => ∃ r : Int32, v = .int r ∧ (((x = -1 ∧ inN y ∧ inN z) ∧ S'.1 28 0 = 0 ∧ r = 0) ∨ (¬ (x = -1 ∧ inN y ∧ inN z) ∧ S'.1 28 0 = 2))) := by
  refine g_aload_n dX5_has_48 rfl rfl ?_
  refine g_get dX5_has_49 flX5_75 rfl rfl ?_
  rw [mS_same]
  refine g_if_ne (tgt := 74) dX5_has_52 (by decide) (fun c52 => ?_) (fun c52 => ?_)
  · refine g_iconst (v := 0) dX5_has_74 (by decide) ?_
    refine g_zret dX5_has_75 rfl (by first | rfl | assumption) ⟨_, _, rfl, rfl, ?_⟩
    exact ⟨_, rfl, Or.inr ⟨hb, mS_same _ _ _ _⟩⟩
  · exact absurd c52 (by decide)
set_option maxRecDepth 100000 in
set_option maxHeartbeats 4000000 in
theorem lg_has (S : gS) (x y z : Int32) (f : Fm S) (hx : x = -1) (hy : inN y) (hz : inN z) : G MX5_has (3, 64) 48 [some (.ref 28), some (.int x), some (.int y), some (.int z)] [] (wRf Γ τ (mS S 28 0 0)) 0 0 (gN (wRf Γ τ) fun v S' => ∃ r : Int32, v = .int r ∧ (((x = -1 ∧ inN y ∧ inN z) ∧ S'.1 28 0 = 0 ∧ r = 0) ∨ (¬ (x = -1 ∧ inN y ∧ inN z) ∧ S'.1 28 0 = 2))) := by
  subst hx
  obtain ⟨i, hi, rfl⟩ := inNi hy
  refine g_aload_n dX5_has_48 rfl rfl ?_
  refine g_get dX5_has_49 flX5_75 rfl rfl ?_
  rw [mS_same]
  refine g_if_ne (tgt := 74) dX5_has_52 (by decide) (fun c52 => ?_) (fun c52 => ?_)
  · refine g_iconst (v := 0) dX5_has_74 (by decide) ?_
    refine g_zret dX5_has_75 rfl (by first | rfl | assumption) ⟨_, _, rfl, rfl, ?_⟩
    first | exact absurd rfl c52 | exact ⟨_, rfl, Or.inl ⟨⟨rfl, hy, hz⟩, mS_same _ _ _ _, rfl⟩⟩
  · refine g_aload_n dX5_has_55 rfl rfl ?_
    refine g_iload_n dX5_has_56 rfl rfl ?_
    refine g_iload_n dX5_has_57 rfl rfl ?_
    refine cV2N (fun _ _ => rfl) dX5_has_58 mlX5_178 imX5_edges seX5_edges rfl rfl (m_edges _ _ hi (f.t 0)) (by decide) (Nat.le_of_ble_eq_true rfl) (Nat.le_of_ble_eq_true rfl) (Nat.le_of_ble_eq_true rfl) ?_
    rintro _ _ ⟨rfl, rfl⟩
    refine g_iload_n dX5_has_61 rfl rfl ?_
    refine g_lushr dX5_has_62 ?_
    refine g_lconst (v := 1) dX5_has_63 (by decide) ?_
    refine g_land dX5_has_64 ?_
    refine g_lconst (v := 1) dX5_has_65 (by decide) ?_
    refine g_lcmp dX5_has_66 ?_
    refine g_if_ne (tgt := 74) dX5_has_67 (by decide) (fun c67 => ?_) (fun c67 => ?_)
    · refine g_iconst (v := 0) dX5_has_74 (by decide) ?_
      refine g_zret dX5_has_75 rfl (by first | rfl | assumption) ⟨_, _, rfl, rfl, ?_⟩
      first | exact absurd rfl c52 | exact ⟨_, rfl, Or.inl ⟨⟨rfl, hy, hz⟩, mS_same _ _ _ _, rfl⟩⟩
    · exact absurd c67 (cmp_z _)
set_option maxRecDepth 100000 in
set_option maxHeartbeats 4000000 in
theorem m_has (S : gS) (x y z : Int32) (f : Fm S) : gCt MX5_has (3, 64) 0 0 [.ref 28, .int x, .int y, .int z] (wRf Γ τ S) (gN (wRf Γ τ) fun v S' => ∃ r : Int32, v = .int r ∧ (((x = -1 ∧ inN y ∧ inN z) ∧ S'.1 28 0 = 0 ∧ r = 0) ∨ (¬ (x = -1 ∧ inN y ∧ inN z) ∧ S'.1 28 0 = 2))) := by
  refine gCt.of (ls := [some (.ref 28), some (.int x), some (.int y), some (.int z)]) 0 (by decide) rfl (Nat.le_of_ble_eq_true rfl) ?_
  refine g_aload_n dX5_has_0 rfl rfl ?_
  refine g_aload_n dX5_has_1 rfl rfl ?_
  refine g_get dX5_has_2 flX5_94 rfl rfl ?_
  refine g_if_ne (tgt := 12) dX5_has_5 (by decide) (fun c5 => ?_) (fun c5 => ?_)
  · refine g_aload_n dX5_has_12 rfl rfl ?_
    refine g_iload_n dX5_has_13 rfl rfl ?_
    refine cV1N (fun _ _ => rfl) dX5_has_14 mlX5_203 imX5_isVersion seX5_isVersion rfl rfl (m_isVersion _ _ f) (by decide) (Nat.le_of_ble_eq_true rfl) (Nat.le_of_ble_eq_true rfl) (Nat.le_of_ble_eq_true rfl) ?_
    rintro _ _ ⟨rfl, rfl⟩
    refine g_if_eq (tgt := 40) dX5_has_17 (by decide) (fun c17 => ?_) (fun c17 => ?_)
    · refine g_iconst (v := 2) dX5_has_40 (by decide) ?_
      refine g_goto (tgt := 45) dX5_has_41 (by decide) ?_
      refine p_put dX5_has_45 fpX5_75 rfl (Nat.le_of_ble_eq_true rfl) (fun _ => rfl) (fun _ => rfl) (by with_reducible first | exact wS_28_0 _ _ _ _) ?_
      first | exact lb_has S x y z f (fun q => in63y c37 q.2.2) | exact lb_has S x y z f (fun q => in63y c27 q.2.1) | exact lb_has S x y z f (fun q => absurd c17 (by rw [if_pos q.1]; decide))
    · refine g_iload_n dX5_has_20 rfl rfl ?_
      refine g_iconst (v := 0) dX5_has_21 (by decide) ?_
      refine g_bipush (v := 63) dX5_has_22 (by decide) ?_
      refine cS3N (fun _ _ => rfl) dX5_has_24 mlX5_133 isX5_in (m_in _ _ _ _) (by decide) (Nat.le_of_ble_eq_true rfl) (Nat.le_of_ble_eq_true rfl) (Nat.le_of_ble_eq_true rfl) ?_
      rintro _ _ ⟨rfl, rfl⟩
      refine g_if_eq (tgt := 40) dX5_has_27 (by decide) (fun c27 => ?_) (fun c27 => ?_)
      · refine g_iconst (v := 2) dX5_has_40 (by decide) ?_
        refine g_goto (tgt := 45) dX5_has_41 (by decide) ?_
        refine p_put dX5_has_45 fpX5_75 rfl (Nat.le_of_ble_eq_true rfl) (fun _ => rfl) (fun _ => rfl) (by with_reducible first | exact wS_28_0 _ _ _ _) ?_
        first | exact lb_has S x y z f (fun q => in63y c37 q.2.2) | exact lb_has S x y z f (fun q => in63y c27 q.2.1) | exact lb_has S x y z f (fun q => absurd c17 (by rw [if_pos q.1]; decide))
      · refine g_iload_n dX5_has_30 rfl rfl ?_
        refine g_iconst (v := 0) dX5_has_31 (by decide) ?_
        refine g_bipush (v := 63) dX5_has_32 (by decide) ?_
        refine cS3N (fun _ _ => rfl) dX5_has_34 mlX5_133 isX5_in (m_in _ _ _ _) (by decide) (Nat.le_of_ble_eq_true rfl) (Nat.le_of_ble_eq_true rfl) (Nat.le_of_ble_eq_true rfl) ?_
        rintro _ _ ⟨rfl, rfl⟩
        refine g_if_ne (tgt := 44) dX5_has_37 (by decide) (fun c37 => ?_) (fun c37 => ?_)
        · refine g_iconst (v := 0) dX5_has_44 (by decide) ?_
          refine p_put dX5_has_45 fpX5_75 rfl (Nat.le_of_ble_eq_true rfl) (fun _ => rfl) (fun _ => rfl) (by with_reducible first | exact wS_28_0 _ _ _ _) ?_
          exact lg_has S x y z f (Classical.byContradiction fun q => c17 (by rw [if_neg q])) (in63n c27) (in63n c37)
        · refine g_iconst (v := 2) dX5_has_40 (by decide) ?_
          refine g_goto (tgt := 45) dX5_has_41 (by decide) ?_
          refine p_put dX5_has_45 fpX5_75 rfl (Nat.le_of_ble_eq_true rfl) (fun _ => rfl) (fun _ => rfl) (by with_reducible first | exact wS_28_0 _ _ _ _) ?_
          first | exact lb_has S x y z f (fun q => in63y c37 q.2.2) | exact lb_has S x y z f (fun q => in63y c27 q.2.1) | exact lb_has S x y z f (fun q => absurd c17 (by rw [if_pos q.1]; decide))
  · exact absurd c5 (by rw [f.op]; decide)
theorem bit1_i : ∀ i j : Fin 64, (lg_cmp (((1 <<< ((nI i.val).toInt64 &&& 63) : Int64).toUInt64 >>> ((nI j.val).toInt64.toUInt64 &&& Int64.toUInt64 63)).toInt64 &&& 1) 1 = 0) ↔ nI i.val = nI j.val := by decide +kernel
theorem bit1_x {y z : Int32} (hy : inN y) (hz : inN z) : (lg_cmp (((1 <<< (y.toInt64 &&& 63) : Int64).toUInt64 >>> (z.toInt64.toUInt64 &&& Int64.toUInt64 63)).toInt64 &&& 1) 1 = 0) ↔ y = z := by
  obtain ⟨i, hi, rfl⟩ := inNi hy
  obtain ⟨j, hj, rfl⟩ := inNi hz
  exact bit1_i ⟨i, hi⟩ ⟨j, hj⟩
theorem bit_ne0 : ∀ i : Fin 64, ¬ lg_cmp (1 <<< ((nI i.val).toInt64 &&& 63) : Int64) 0 = 0 := by decide +kernel
theorem cmp_self (x : Int64) : lg_cmp x x = 0 := cmp_eq rfl
set_option maxRecDepth 100000 in
set_option maxHeartbeats 4000000 in
theorem lm_far (S : gS) (y z c : Int32) (g h : Int64) (f : Fm S) {Q : gR → gW → Prop} (kk : G MX5_far (3, 64) 134 [some (.ref 28), some (.int (-1)), some (.int y), some (.int z), some (.long g), none, some (.int c), some (.long h), none, some (.int (nI 64))] [] (wRf Γ τ S) 0 0 Q) : ∀ (m i : Nat), i + m = 64 → G MX5_far (3, 64) 97 [some (.ref 28), some (.int (-1)), some (.int y), some (.int z), some (.long g), none, some (.int c), some (.long h), none, some (.int (nI i))] [] (wRf Γ τ S) 0 0 Q := by
  intro m
  induction m with
  | zero =>
    intro i hi
    obtain rfl : i = 64 := by omega
    refine g_iload dX5_far_97 rfl ?_
    refine g_bipush (v := 64) dX5_far_99 (by decide) ?_
    refine g_icmp_ge (tgt := 134) dX5_far_101 (by decide) (fun c101 => ?_) (fun c101 => ?_)
    · exact kk
    · exact absurd (show (64 : Int32) ≤ nI 64 by decide) c101
  | succ m ih =>
    intro i hi
    refine g_iload dX5_far_97 rfl ?_
    refine g_bipush (v := 64) dX5_far_99 (by decide) ?_
    refine g_icmp_ge (tgt := 134) dX5_far_101 (by decide) (fun c101 => ?_) (fun c101 => ?_)
    · exact absurd c101 (nI_ge (b := 64) (by omega) (by decide))
    · refine g_lload dX5_far_104 rfl ?_
      refine g_iload dX5_far_106 rfl ?_
      refine g_lushr dX5_far_108 ?_
      refine g_lconst (v := 1) dX5_far_109 (by decide) ?_
      refine g_land dX5_far_110 ?_
      refine g_lconst (v := 1) dX5_far_111 (by decide) ?_
      refine g_lcmp dX5_far_112 ?_
      refine g_if_ne (tgt := 128) dX5_far_113 (by decide) (fun c113 => ?_) (fun c113 => ?_)
      · refine g_iinc dX5_far_128 rfl (by decide) (by first | exact gi_1 _ | exact gi_p _) ?_
        refine g_goto (tgt := 97) dX5_far_131 (by decide) ?_
        first | exact ih (i + 1) (by omega) | (rw [Int64.or_zero]; exact ih (i + 1) (by omega))
      · refine g_lload dX5_far_116 rfl ?_
        refine g_aload_n dX5_far_118 rfl rfl ?_
        refine g_iload_n dX5_far_119 rfl rfl ?_
        refine g_iload dX5_far_120 rfl ?_
        refine cV2N (fun _ _ => rfl) dX5_far_122 mlX5_178 imX5_edges seX5_edges rfl rfl (m_edges _ i (by omega) f) (by decide) (Nat.le_of_ble_eq_true rfl) (Nat.le_of_ble_eq_true rfl) (Nat.le_of_ble_eq_true rfl) ?_
        rintro _ _ ⟨rfl, rfl⟩
        refine g_lor dX5_far_125 ?_
        refine g_lstore dX5_far_126 (by decide) ?_
        refine g_iinc dX5_far_128 rfl (by decide) (by first | exact gi_1 _ | exact gi_p _) ?_
        refine g_goto (tgt := 97) dX5_far_131 (by decide) ?_
        first | exact ih (i + 1) (by omega) | (rw [Int64.or_zero]; exact ih (i + 1) (by omega))
set_option maxRecDepth 100000 in
set_option maxHeartbeats 4000000 in
theorem lb_far (S : gS) (x y z : Int32) (f : Fm S) (hb : ¬ (x = -1 ∧ inN y ∧ inN z)) : G MX5_far (3, 64) 48 [some (.ref 28), some (.int x), some (.int y), some (.int z), none, none, none, none, none, none] [] (wRf Γ τ (mS S 28 0 2)) 0 0 (gN (wRf Γ τ) fun v S' => ∃ r : Int32, v = .int r ∧ (((x = -1 ∧ inN y ∧ inN z) ∧ S'.1 28 0 = 0 ∧ r = if y = z then 0 else -1) ∨ (¬ (x = -1 ∧ inN y ∧ inN z) ∧ S'.1 28 0 = 2))) := by
  refine g_aload_n dX5_far_48 rfl rfl ?_
  refine g_get dX5_far_49 flX5_75 rfl rfl ?_
  rw [mS_same]
  refine g_if_le (tgt := 57) dX5_far_52 (by decide) (fun c52 => ?_) (fun c52 => ?_)
  · exact absurd c52 (by decide)
  · refine g_iconst (v := 0) dX5_far_55 (by decide) ?_
    refine g_iret dX5_far_56 rfl ⟨_, _, rfl, rfl, ?_⟩
    exact ⟨_, rfl, Or.inr ⟨hb, mS_same _ _ _ _⟩⟩
set_option maxRecDepth 100000 in
set_option maxHeartbeats 4000000 in
theorem lg_far (S : gS) (x y z : Int32) (f : Fm S) (hx : x = -1) (hy : inN y) (hz : inN z) : G MX5_far (3, 64) 48 [some (.ref 28), some (.int x), some (.int y), some (.int z), none, none, none, none, none, none] [] (wRf Γ τ (mS S 28 0 0)) 0 0 (gN (wRf Γ τ) fun v S' => ∃ r : Int32, v = .int r ∧ (((x = -1 ∧ inN y ∧ inN z) ∧ S'.1 28 0 = 0 ∧ r = if y = z then 0 else -1) ∨ (¬ (x = -1 ∧ inN y ∧ inN z) ∧ S'.1 28 0 = 2))) := by
  subst hx
  refine g_aload_n dX5_far_48 rfl rfl ?_
  refine g_get dX5_far_49 flX5_75 rfl rfl ?_
  rw [mS_same]
  refine g_if_le (tgt := 57) dX5_far_52 (by decide) (fun c52 => ?_) (fun c52 => ?_)
  · refine g_lconst (v := 1) dX5_far_57 (by decide) ?_
    refine g_iload_n dX5_far_58 rfl rfl ?_
    refine g_lshl dX5_far_59 ?_
    refine g_lstore dX5_far_60 (by decide) ?_
    refine g_iconst (v := 0) dX5_far_62 (by decide) ?_
    refine g_istore dX5_far_63 (by decide) ?_
    refine g_lconst (v := 0) dX5_far_65 (by decide) ?_
    refine g_lstore dX5_far_66 (by decide) ?_
    refine g_lload dX5_far_68 rfl ?_
    refine g_lload dX5_far_70 rfl ?_
    refine g_lcmp dX5_far_72 ?_
    refine g_if_eq (tgt := 140) dX5_far_73 (by decide) (fun c73 => ?_) (fun c73 => ?_)
    · obtain ⟨i, hi, rfl⟩ := inNi hy
      exact absurd c73 (bit_ne0 ⟨i, hi⟩)
    · refine g_lload dX5_far_76 rfl ?_
      refine g_iload_n dX5_far_78 rfl rfl ?_
      refine g_lushr dX5_far_79 ?_
      refine g_lconst (v := 1) dX5_far_80 (by decide) ?_
      refine g_land dX5_far_81 ?_
      refine g_lconst (v := 1) dX5_far_82 (by decide) ?_
      refine g_lcmp dX5_far_83 ?_
      refine g_if_ne (tgt := 90) dX5_far_84 (by decide) (fun c84 => ?_) (fun c84 => ?_)
      · refine g_lload dX5_far_90 rfl ?_
        refine g_lstore dX5_far_92 (by decide) ?_
        refine g_iconst (v := 0) dX5_far_94 (by decide) ?_
        refine g_istore dX5_far_95 (by decide) ?_
        refine lm_far _ _ _ _ _ _ (f.t 0) ?_ 64 0 rfl
        refine g_iinc dX5_far_134 rfl (by decide) (by first | exact gi_1 _ | exact gi_p _) ?_
        refine g_goto (tgt := 68) dX5_far_137 (by decide) ?_
        refine g_lload dX5_far_68 rfl ?_
        refine g_lload dX5_far_70 rfl ?_
        refine g_lcmp dX5_far_72 ?_
        refine g_if_eq (tgt := 140) dX5_far_73 (by decide) (fun c73 => ?_) (fun c73 => ?_)
        · refine g_iconst (v := (-1)) dX5_far_140 (by decide) ?_
          refine g_iret dX5_far_141 rfl ⟨_, _, rfl, rfl, ?_⟩
          exact ⟨_, rfl, Or.inl ⟨⟨rfl, hy, hz⟩, mS_same _ _ _ _, by rw [if_neg (fun q => c84 ((bit1_x hy hz).mpr q))]⟩⟩
        · exact absurd (cmp_self _) c73
      · refine g_iload dX5_far_87 rfl ?_
        refine g_iret dX5_far_89 rfl ⟨_, _, rfl, rfl, ?_⟩
        exact ⟨_, rfl, Or.inl ⟨⟨rfl, hy, hz⟩, mS_same _ _ _ _, by rw [if_pos ((bit1_x hy hz).mp c84)]⟩⟩
  · exact absurd (by decide) c52
set_option maxRecDepth 100000 in
set_option maxHeartbeats 4000000 in
theorem m_far (S : gS) (x y z : Int32) (f : Fm S) : gCt MX5_far (3, 64) 0 0 [.ref 28, .int x, .int y, .int z] (wRf Γ τ S) (gN (wRf Γ τ) fun v S' => ∃ r : Int32, v = .int r ∧ (((x = -1 ∧ inN y ∧ inN z) ∧ S'.1 28 0 = 0 ∧ r = if y = z then 0 else -1) ∨ (¬ (x = -1 ∧ inN y ∧ inN z) ∧ S'.1 28 0 = 2))) := by
  refine gCt.of (ls := [some (.ref 28), some (.int x), some (.int y), some (.int z), none, none, none, none, none, none]) 6 (by decide) rfl (Nat.le_of_ble_eq_true rfl) ?_
  refine g_aload_n dX5_far_0 rfl rfl ?_
  refine g_aload_n dX5_far_1 rfl rfl ?_
  refine g_get dX5_far_2 flX5_94 rfl rfl ?_
  refine g_if_ne (tgt := 12) dX5_far_5 (by decide) (fun c5 => ?_) (fun c5 => ?_)
  · refine g_aload_n dX5_far_12 rfl rfl ?_
    refine g_iload_n dX5_far_13 rfl rfl ?_
    refine cV1N (fun _ _ => rfl) dX5_far_14 mlX5_203 imX5_isVersion seX5_isVersion rfl rfl (m_isVersion _ _ f) (by decide) (Nat.le_of_ble_eq_true rfl) (Nat.le_of_ble_eq_true rfl) (Nat.le_of_ble_eq_true rfl) ?_
    rintro _ _ ⟨rfl, rfl⟩
    refine g_if_eq (tgt := 40) dX5_far_17 (by decide) (fun c17 => ?_) (fun c17 => ?_)
    · refine g_iconst (v := 2) dX5_far_40 (by decide) ?_
      refine g_goto (tgt := 45) dX5_far_41 (by decide) ?_
      refine p_put dX5_far_45 fpX5_75 rfl (Nat.le_of_ble_eq_true rfl) (fun _ => rfl) (fun _ => rfl) (by with_reducible first | exact wS_28_0 _ _ _ _) ?_
      first | exact lb_far S x y z f (fun q => in63y c37 q.2.2) | exact lb_far S x y z f (fun q => in63y c27 q.2.1) | exact lb_far S x y z f (fun q => absurd c17 (by rw [if_pos q.1]; decide))
    · refine g_iload_n dX5_far_20 rfl rfl ?_
      refine g_iconst (v := 0) dX5_far_21 (by decide) ?_
      refine g_bipush (v := 63) dX5_far_22 (by decide) ?_
      refine cS3N (fun _ _ => rfl) dX5_far_24 mlX5_133 isX5_in (m_in _ _ _ _) (by decide) (Nat.le_of_ble_eq_true rfl) (Nat.le_of_ble_eq_true rfl) (Nat.le_of_ble_eq_true rfl) ?_
      rintro _ _ ⟨rfl, rfl⟩
      refine g_if_eq (tgt := 40) dX5_far_27 (by decide) (fun c27 => ?_) (fun c27 => ?_)
      · refine g_iconst (v := 2) dX5_far_40 (by decide) ?_
        refine g_goto (tgt := 45) dX5_far_41 (by decide) ?_
        refine p_put dX5_far_45 fpX5_75 rfl (Nat.le_of_ble_eq_true rfl) (fun _ => rfl) (fun _ => rfl) (by with_reducible first | exact wS_28_0 _ _ _ _) ?_
        first | exact lb_far S x y z f (fun q => in63y c37 q.2.2) | exact lb_far S x y z f (fun q => in63y c27 q.2.1) | exact lb_far S x y z f (fun q => absurd c17 (by rw [if_pos q.1]; decide))
      · refine g_iload_n dX5_far_30 rfl rfl ?_
        refine g_iconst (v := 0) dX5_far_31 (by decide) ?_
        refine g_bipush (v := 63) dX5_far_32 (by decide) ?_
        refine cS3N (fun _ _ => rfl) dX5_far_34 mlX5_133 isX5_in (m_in _ _ _ _) (by decide) (Nat.le_of_ble_eq_true rfl) (Nat.le_of_ble_eq_true rfl) (Nat.le_of_ble_eq_true rfl) ?_
        rintro _ _ ⟨rfl, rfl⟩
        refine g_if_ne (tgt := 44) dX5_far_37 (by decide) (fun c37 => ?_) (fun c37 => ?_)
        · refine g_iconst (v := 0) dX5_far_44 (by decide) ?_
          refine p_put dX5_far_45 fpX5_75 rfl (Nat.le_of_ble_eq_true rfl) (fun _ => rfl) (fun _ => rfl) (by with_reducible first | exact wS_28_0 _ _ _ _) ?_
          exact lg_far S x y z f (Classical.byContradiction fun q => c17 (by rw [if_neg q])) (in63n c27) (in63n c37)
        · refine g_iconst (v := 2) dX5_far_40 (by decide) ?_
          refine g_goto (tgt := 45) dX5_far_41 (by decide) ?_
          refine p_put dX5_far_45 fpX5_75 rfl (Nat.le_of_ble_eq_true rfl) (fun _ => rfl) (fun _ => rfl) (by with_reducible first | exact wS_28_0 _ _ _ _) ?_
          first | exact lb_far S x y z f (fun q => in63y c37 q.2.2) | exact lb_far S x y z f (fun q => in63y c27 q.2.1) | exact lb_far S x y z f (fun q => absurd c17 (by rw [if_pos q.1]; decide))
  · exact absurd c5 (by rw [f.op]; decide)
theorem edge_k (i : Nat) (hi : i < 64) (D : Nat → Int32) (x y z w9 : Int32) (v9 : Int64) (hx : x = nI i) : (mput (upd (upd (upd (mhead D 32 2 w9 3) 36 (x &&& 255)) 37 (y &&& 255)) 38 (z &&& 255)) 39 v9 8 8) 32 = 2 ∧ (mput (upd (upd (upd (mhead D 32 2 w9 3) 36 (x &&& 255)) 37 (y &&& 255)) 38 (z &&& 255)) 39 v9 8 8) 36 = nI i := by
  constructor
  · rw [mput_lt _ _ _ _ (by decide), pk_un (by decide), pk_un (by decide), pk_un (by decide), mhead_0]; rfl
  · rw [mput_lt _ _ _ _ (by decide), pk_un (by decide), pk_un (by decide), pk_us, hx]; exact and255 ⟨i, hi⟩
set_option maxRecDepth 100000 in
set_option maxHeartbeats 4000000 in
theorem lb_edge (S : gS) (x y z : Int32) (h01 : z = 0 ∨ z = 1) (f : Fm S) (hb : ¬ (inN x ∧ inN y)) : G MX5_edge (3, 89) 40 [some (.ref 28), some (.int x), some (.int y), some (.int z), none] [] (wRf Γ τ (mS S 28 0 2)) 0 0 (gN (wRf Γ τ) fun v S' => ∃ r : Int32, v = .int r ∧ (((inN x ∧ inN y) ∧ S'.1 28 0 = 0 ∧ r = z) ∨ (¬ (inN x ∧ inN y) ∧ S'.1 28 0 = 2))) := by
  refine g_aload_n dX5_edge_40 rfl rfl ?_
  refine g_get dX5_edge_41 flX5_75 rfl rfl ?_
  rw [mS_same]
  refine g_if_le (tgt := 49) dX5_edge_44 (by decide) (fun c44 => ?_) (fun c44 => ?_)
  · exact absurd c44 (by decide)
  · refine g_iconst (v := 0) dX5_edge_47 (by decide) ?_
    refine g_iret dX5_edge_48 rfl ⟨_, _, rfl, rfl, ?_⟩
    exact ⟨_, rfl, Or.inr ⟨hb, mS_same _ _ _ _⟩⟩
set_option maxRecDepth 100000 in
set_option maxHeartbeats 4000000 in
theorem lg_edge (S : gS) (x y z : Int32) (h01 : z = 0 ∨ z = 1) (f : Fm S) (hx : inN x) (hy : inN y) : G MX5_edge (3, 89) 40 [some (.ref 28), some (.int x), some (.int y), some (.int z), none] [] (wRf Γ τ (mS S 28 0 0)) 0 0 (gN (wRf Γ τ) fun v S' => ∃ r : Int32, v = .int r ∧ (((inN x ∧ inN y) ∧ S'.1 28 0 = 0 ∧ r = z) ∨ (¬ (inN x ∧ inN y) ∧ S'.1 28 0 = 2))) := by
  obtain ⟨i, hi, rfl⟩ := inNi hx
  refine g_aload_n dX5_edge_40 rfl rfl ?_
  refine g_get dX5_edge_41 flX5_75 rfl rfl ?_
  rw [mS_same]
  refine g_if_le (tgt := 49) dX5_edge_44 (by decide) (fun c44 => ?_) (fun c44 => ?_)
  · refine g_aload_n dX5_edge_49 rfl rfl ?_
    refine g_iload_n dX5_edge_50 rfl rfl ?_
    refine g_iload_n dX5_edge_51 rfl rfl ?_
    refine cV2N (fun _ _ => rfl) dX5_edge_52 mlX5_148 imX5_hasNow seX5_hasNow rfl rfl (m_hasNow _ i _ hi) (by decide) (Nat.le_of_ble_eq_true rfl) (Nat.le_of_ble_eq_true rfl) (Nat.le_of_ble_eq_true rfl) ?_
    rintro _ _ ⟨⟨hn, rfl, hn01, hn0⟩, rfl⟩
    refine g_iload_n dX5_edge_55 rfl rfl ?_
    refine g_icmp_ne (tgt := 61) dX5_edge_56 (by decide) (fun c56 => ?_) (fun c56 => ?_)
    · refine g_aload_n dX5_edge_61 rfl rfl ?_
      refine g_bipush (v := 15) dX5_edge_62 (by decide) ?_
      refine cV1N (fun _ _ => rfl) dX5_edge_64 mlX5_156 imX5_fits seX5_fits rfl rfl (m_fits _ _) (by decide) (Nat.le_of_ble_eq_true rfl) (Nat.le_of_ble_eq_true rfl) (Nat.le_of_ble_eq_true rfl) ?_
      rintro _ _ ⟨rfl, rfl⟩
      refine g_if_ne (tgt := 73) dX5_edge_67 (by decide) (fun c67 => ?_) (fun c67 => ?_)
      · refine g_aload_n dX5_edge_73 rfl rfl ?_
        refine g_iconst (v := 2) dX5_edge_74 (by decide) ?_
        refine g_aload_n dX5_edge_75 rfl rfl ?_
        refine g_get dX5_edge_76 flX5_104 rfl rfl ?_
        refine g_iconst (v := 3) dX5_edge_79 (by decide) ?_
        refine cV3N (fun _ _ => rfl) dX5_edge_80 mlX5_159 imX5_begin_ seX5_begin_ rfl rfl (m_begin_ _ 0 0 _ _ _ (f.t 0).lg (by decide) (f.t 0).wr (by decide)) (by decide) (Nat.le_of_ble_eq_true rfl) (Nat.le_of_ble_eq_true rfl) (Nat.le_of_ble_eq_true rfl) ?_
        rintro _ S1 ⟨rfl, hS1⟩
        refine g_istore dX5_edge_83 (by decide) ?_
        refine g_aload_n dX5_edge_85 rfl rfl ?_
        refine g_iload dX5_edge_86 rfl ?_
        refine g_iload_n dX5_edge_88 rfl rfl ?_
        refine cV20 (fun _ _ => rfl) dX5_edge_89 mlX5_118 imX5_put seX5_put rfl rfl (m_put _ 36 4 _ (by decide) hS1.1 (by decide)) (by decide) (Nat.le_of_ble_eq_true rfl) (Nat.le_of_ble_eq_true rfl) (Nat.le_of_ble_eq_true rfl) ?_
        rintro S2 hS2
        refine g_aload_n dX5_edge_92 rfl rfl ?_
        refine g_iload dX5_edge_93 rfl ?_
        refine g_iconst (v := 1) dX5_edge_95 (by decide) ?_
        refine g_iadd dX5_edge_96 ?_
        refine g_eqi (y := nI (37)) (rfl) ?_
        refine g_iload_n dX5_edge_97 rfl rfl ?_
        refine cV20 (fun _ _ => rfl) dX5_edge_98 mlX5_118 imX5_put seX5_put rfl rfl (m_put _ 37 5 _ (by decide) hS2.1 (by decide)) (by decide) (Nat.le_of_ble_eq_true rfl) (Nat.le_of_ble_eq_true rfl) (Nat.le_of_ble_eq_true rfl) ?_
        rintro S3 hS3
        refine g_aload_n dX5_edge_101 rfl rfl ?_
        refine g_iload dX5_edge_102 rfl ?_
        refine g_iconst (v := 2) dX5_edge_104 (by decide) ?_
        refine g_iadd dX5_edge_105 ?_
        refine g_eqi (y := nI (38)) (rfl) ?_
        refine g_iload_n dX5_edge_106 rfl rfl ?_
        refine g_if_eq (tgt := 114) dX5_edge_107 (by decide) (fun c107 => ?_) (fun c107 => ?_)
        · refine g_iconst (v := 0) dX5_edge_114 (by decide) ?_
          refine cV20 (fun _ _ => rfl) dX5_edge_115 mlX5_118 imX5_put seX5_put rfl rfl (m_put _ 38 6 _ (by decide) hS3.1 (by decide)) (by decide) (Nat.le_of_ble_eq_true rfl) (Nat.le_of_ble_eq_true rfl) (Nat.le_of_ble_eq_true rfl) ?_
          rintro S4 hS4
          have e4 := hS4.2.1
          rw [hS3.2.1, hS2.2.1, hS1.2.1] at e4
          have hl4 : S4.1 28 9 = nI 0 := (hS4.2.2.1 9 (by decide)).trans ((hS3.2.2.1 9 (by decide)).trans ((hS2.2.2.1 9 (by decide)).trans ((hS1.2.2.1 9 (by decide)).trans (f.t 0).lg)))
          have h04 : S4.1 28 0 = 0 := (hS4.2.2.1 0 (by decide)).trans ((hS3.2.2.1 0 (by decide)).trans ((hS2.2.2.1 0 (by decide)).trans ((hS1.2.2.1 0 (by decide)).trans (mS_same _ _ _ _))))
          refine g_aload_n dX5_edge_118 rfl rfl ?_
          refine g_iconst (v := 3) dX5_edge_119 (by decide) ?_
          refine cV10 (fun _ _ => rfl) dX5_edge_120 mlX5_163 imX5_end seX5_end rfl rfl (m_end _ 0 7 3 (fun S' => S'.1 28 0 = 0) hl4 (by decide) hS4.1 (by decide) (fun S5 hS5 => (m_take2 S5 32 3 (by decide) i (by rw [hS5.2.1, e4]; exact (edge_k i hi _ _ _ _ _ _ rfl).1) (by rw [hS5.2.1, e4]; exact (edge_k i hi _ _ _ _ _ _ rfl).2) hi).mono (fun r9 w9 h9 => by obtain ⟨S9, q1, q2, q3⟩ := h9; exact ⟨S9, q1, q2, q3.trans ((hS5.2.2.1 0 (by decide)).trans h04)⟩))) (by decide) (Nat.le_of_ble_eq_true rfl) (Nat.le_of_ble_eq_true rfl) (Nat.le_of_ble_eq_true rfl) ?_
          rintro S6 hS6
          refine g_iconst (v := 1) dX5_edge_123 (by decide) ?_
          refine g_iret dX5_edge_124 rfl ⟨_, _, rfl, rfl, ?_⟩
          refine ⟨_, rfl, Or.inl ⟨⟨hx, hy⟩, hS6, ?_⟩⟩
          rcases h01 with h | h
          · exact absurd (by rw [hn0 (f.nw i hi), h]) c56
          · exact h.symm
        · refine g_iconst (v := 1) dX5_edge_110 (by decide) ?_
          refine g_goto (tgt := 115) dX5_edge_111 (by decide) ?_
          refine cV20 (fun _ _ => rfl) dX5_edge_115 mlX5_118 imX5_put seX5_put rfl rfl (m_put _ 38 6 _ (by decide) hS3.1 (by decide)) (by decide) (Nat.le_of_ble_eq_true rfl) (Nat.le_of_ble_eq_true rfl) (Nat.le_of_ble_eq_true rfl) ?_
          rintro S4 hS4
          have e4 := hS4.2.1
          rw [hS3.2.1, hS2.2.1, hS1.2.1] at e4
          have hl4 : S4.1 28 9 = nI 0 := (hS4.2.2.1 9 (by decide)).trans ((hS3.2.2.1 9 (by decide)).trans ((hS2.2.2.1 9 (by decide)).trans ((hS1.2.2.1 9 (by decide)).trans (f.t 0).lg)))
          have h04 : S4.1 28 0 = 0 := (hS4.2.2.1 0 (by decide)).trans ((hS3.2.2.1 0 (by decide)).trans ((hS2.2.2.1 0 (by decide)).trans ((hS1.2.2.1 0 (by decide)).trans (mS_same _ _ _ _))))
          refine g_aload_n dX5_edge_118 rfl rfl ?_
          refine g_iconst (v := 3) dX5_edge_119 (by decide) ?_
          refine cV10 (fun _ _ => rfl) dX5_edge_120 mlX5_163 imX5_end seX5_end rfl rfl (m_end _ 0 7 3 (fun S' => S'.1 28 0 = 0) hl4 (by decide) hS4.1 (by decide) (fun S5 hS5 => (m_take2 S5 32 3 (by decide) i (by rw [hS5.2.1, e4]; exact (edge_k i hi _ _ _ _ _ _ rfl).1) (by rw [hS5.2.1, e4]; exact (edge_k i hi _ _ _ _ _ _ rfl).2) hi).mono (fun r9 w9 h9 => by obtain ⟨S9, q1, q2, q3⟩ := h9; exact ⟨S9, q1, q2, q3.trans ((hS5.2.2.1 0 (by decide)).trans h04)⟩))) (by decide) (Nat.le_of_ble_eq_true rfl) (Nat.le_of_ble_eq_true rfl) (Nat.le_of_ble_eq_true rfl) ?_
          rintro S6 hS6
          refine g_iconst (v := 1) dX5_edge_123 (by decide) ?_
          refine g_iret dX5_edge_124 rfl ⟨_, _, rfl, rfl, ?_⟩
          refine ⟨_, rfl, Or.inl ⟨⟨hx, hy⟩, hS6, ?_⟩⟩
          rcases h01 with h | h
          · exact absurd (by rw [hn0 (f.nw i hi), h]) c56
          · exact h.symm
      · exact absurd c67 (by rw [if_neg (by show ¬ 24000 < S.1 28 9 + 15; rw [f.lg]; decide)]; decide)
    · refine g_iconst (v := 0) dX5_edge_59 (by decide) ?_
      refine g_iret dX5_edge_60 rfl ⟨_, _, rfl, rfl, ?_⟩
      refine ⟨_, rfl, Or.inl ⟨⟨hx, hy⟩, mS_same _ _ _ _, ?_⟩⟩
      rw [hn0 (f.nw i hi)] at c56; exact c56
  · exact absurd (by decide) c44
set_option maxRecDepth 100000 in
set_option maxHeartbeats 4000000 in
theorem m_edge (S : gS) (x y z : Int32) (h01 : z = 0 ∨ z = 1) (f : Fm S) : gCt MX5_edge (3, 89) 0 0 [.ref 28, .int x, .int y, .int z] (wRf Γ τ S) (gN (wRf Γ τ) fun v S' => ∃ r : Int32, v = .int r ∧ (((inN x ∧ inN y) ∧ S'.1 28 0 = 0 ∧ r = z) ∨ (¬ (inN x ∧ inN y) ∧ S'.1 28 0 = 2))) := by
  refine gCt.of (ls := [some (.ref 28), some (.int x), some (.int y), some (.int z), none]) 1 (by decide) rfl (Nat.le_of_ble_eq_true rfl) ?_
  refine g_aload_n dX5_edge_0 rfl rfl ?_
  refine g_aload_n dX5_edge_1 rfl rfl ?_
  refine g_get dX5_edge_2 flX5_94 rfl rfl ?_
  refine g_if_ne (tgt := 12) dX5_edge_5 (by decide) (fun c5 => ?_) (fun c5 => ?_)
  · refine g_iload_n dX5_edge_12 rfl rfl ?_
    refine g_iconst (v := 0) dX5_edge_13 (by decide) ?_
    refine g_bipush (v := 63) dX5_edge_14 (by decide) ?_
    refine cS3N (fun _ _ => rfl) dX5_edge_16 mlX5_133 isX5_in (m_in _ _ _ _) (by decide) (Nat.le_of_ble_eq_true rfl) (Nat.le_of_ble_eq_true rfl) (Nat.le_of_ble_eq_true rfl) ?_
    rintro _ _ ⟨rfl, rfl⟩
    refine g_if_eq (tgt := 32) dX5_edge_19 (by decide) (fun c19 => ?_) (fun c19 => ?_)
    · refine g_iconst (v := 2) dX5_edge_32 (by decide) ?_
      refine g_goto (tgt := 37) dX5_edge_33 (by decide) ?_
      refine p_put dX5_edge_37 fpX5_75 rfl (Nat.le_of_ble_eq_true rfl) (fun _ => rfl) (fun _ => rfl) (by with_reducible first | exact wS_28_0 _ _ _ _) ?_
      first | exact lb_edge S x y z h01 f (fun q => in63y c29 q.2) | exact lb_edge S x y z h01 f (fun q => in63y c19 q.1)
    · refine g_iload_n dX5_edge_22 rfl rfl ?_
      refine g_iconst (v := 0) dX5_edge_23 (by decide) ?_
      refine g_bipush (v := 63) dX5_edge_24 (by decide) ?_
      refine cS3N (fun _ _ => rfl) dX5_edge_26 mlX5_133 isX5_in (m_in _ _ _ _) (by decide) (Nat.le_of_ble_eq_true rfl) (Nat.le_of_ble_eq_true rfl) (Nat.le_of_ble_eq_true rfl) ?_
      rintro _ _ ⟨rfl, rfl⟩
      refine g_if_ne (tgt := 36) dX5_edge_29 (by decide) (fun c29 => ?_) (fun c29 => ?_)
      · refine g_iconst (v := 0) dX5_edge_36 (by decide) ?_
        refine p_put dX5_edge_37 fpX5_75 rfl (Nat.le_of_ble_eq_true rfl) (fun _ => rfl) (fun _ => rfl) (by with_reducible first | exact wS_28_0 _ _ _ _) ?_
        exact lg_edge S x y z h01 f (in63n c19) (in63n c29)
      · refine g_iconst (v := 2) dX5_edge_32 (by decide) ?_
        refine g_goto (tgt := 37) dX5_edge_33 (by decide) ?_
        refine p_put dX5_edge_37 fpX5_75 rfl (Nat.le_of_ble_eq_true rfl) (fun _ => rfl) (fun _ => rfl) (by with_reducible first | exact wS_28_0 _ _ _ _) ?_
        first | exact lb_edge S x y z h01 f (fun q => in63y c29 q.2) | exact lb_edge S x y z h01 f (fun q => in63y c19 q.1)
  · exact absurd c5 (by rw [f.op]; decide)
set_option maxRecDepth 100000 in
set_option maxHeartbeats 4000000 in
theorem lb_named (S : gS) (x : Int32) (f : Fm S) (hb : ¬ inN x) : G MX5_named (1, 25) 34 [some (.ref 28), some (.int x)] [] (wRf Γ τ (mS S 28 0 2)) 0 0 (gN (wRf Γ τ) fun v S' => ∃ r : Int32, v = .int r ∧ (((inN x) ∧ S'.1 28 0 = 0 ∧ r = 0) ∨ (¬ (inN x) ∧ S'.1 28 0 = 2))) := by
  refine g_aload_n dX5_named_34 rfl rfl ?_
  refine g_get dX5_named_35 flX5_75 rfl rfl ?_
  rw [mS_same]
  refine g_if_le (tgt := 45) dX5_named_38 (by decide) (fun c38 => ?_) (fun c38 => ?_)
  · exact absurd c38 (by decide)
  · refine g_iconst (v := 0) dX5_named_41 (by decide) ?_
    refine g_goto (tgt := 50) dX5_named_42 (by decide) ?_
    refine g_iret dX5_named_50 rfl ⟨_, _, rfl, rfl, ?_⟩
    exact ⟨_, rfl, Or.inr ⟨hb, mS_same _ _ _ _⟩⟩
set_option maxRecDepth 100000 in
set_option maxHeartbeats 4000000 in
theorem lg_named (S : gS) (x : Int32) (f : Fm S) (hx : inN x) : G MX5_named (1, 25) 34 [some (.ref 28), some (.int x)] [] (wRf Γ τ (mS S 28 0 0)) 0 0 (gN (wRf Γ τ) fun v S' => ∃ r : Int32, v = .int r ∧ (((inN x) ∧ S'.1 28 0 = 0 ∧ r = 0) ∨ (¬ (inN x) ∧ S'.1 28 0 = 2))) := by
  refine g_aload_n dX5_named_34 rfl rfl ?_
  refine g_get dX5_named_35 flX5_75 rfl rfl ?_
  rw [mS_same]
  refine g_if_le (tgt := 45) dX5_named_38 (by decide) (fun c38 => ?_) (fun c38 => ?_)
  · refine g_aload_n dX5_named_45 rfl rfl ?_
    refine g_iload_n dX5_named_46 rfl rfl ?_
    refine cV1N (fun _ _ => rfl) dX5_named_47 mlX5_145 imX5_namedBy seX5_namedBy rfl rfl (m_namedBy _ _ (f.t 0)) (by decide) (Nat.le_of_ble_eq_true rfl) (Nat.le_of_ble_eq_true rfl) (Nat.le_of_ble_eq_true rfl) ?_
    rintro _ _ ⟨rfl, rfl⟩
    refine g_iret dX5_named_50 rfl ⟨_, _, rfl, rfl, ?_⟩
    exact ⟨_, rfl, Or.inl ⟨hx, mS_same _ _ _ _, rfl⟩⟩
  · exact absurd (by decide) c38
set_option maxRecDepth 100000 in
set_option maxHeartbeats 4000000 in
theorem m_named (S : gS) (x : Int32) (f : Fm S) : gCt MX5_named (1, 25) 0 0 [.ref 28, .int x] (wRf Γ τ S) (gN (wRf Γ τ) fun v S' => ∃ r : Int32, v = .int r ∧ (((inN x) ∧ S'.1 28 0 = 0 ∧ r = 0) ∨ (¬ (inN x) ∧ S'.1 28 0 = 2))) := by
  refine gCt.of (ls := [some (.ref 28), some (.int x)]) 0 (by decide) rfl (Nat.le_of_ble_eq_true rfl) ?_
  refine g_aload_n dX5_named_0 rfl rfl ?_
  refine g_aload_n dX5_named_1 rfl rfl ?_
  refine g_get dX5_named_2 flX5_94 rfl rfl ?_
  refine g_if_ne (tgt := 12) dX5_named_5 (by decide) (fun c5 => ?_) (fun c5 => ?_)
  · refine g_iload_n dX5_named_12 rfl rfl ?_
    refine g_iconst (v := 0) dX5_named_13 (by decide) ?_
    refine g_aload_n dX5_named_14 rfl rfl ?_
    refine g_get dX5_named_15 flX5_79 rfl rfl ?_
    refine g_iconst (v := 1) dX5_named_18 (by decide) ?_
    refine g_isub dX5_named_19 ?_
    refine g_eqi (y := 63) (by rw [f.rm]; rfl) ?_
    refine cS3N (fun _ _ => rfl) dX5_named_20 mlX5_133 isX5_in (m_in _ _ _ _) (by decide) (Nat.le_of_ble_eq_true rfl) (Nat.le_of_ble_eq_true rfl) (Nat.le_of_ble_eq_true rfl) ?_
    rintro _ _ ⟨rfl, rfl⟩
    refine g_if_ne (tgt := 30) dX5_named_23 (by decide) (fun c23 => ?_) (fun c23 => ?_)
    · refine g_iconst (v := 0) dX5_named_30 (by decide) ?_
      refine p_put dX5_named_31 fpX5_75 rfl (Nat.le_of_ble_eq_true rfl) (fun _ => rfl) (fun _ => rfl) (by with_reducible first | exact wS_28_0 _ _ _ _) ?_
      exact lg_named S x f (in63n c23)
    · refine g_iconst (v := 2) dX5_named_26 (by decide) ?_
      refine g_goto (tgt := 31) dX5_named_27 (by decide) ?_
      refine p_put dX5_named_31 fpX5_75 rfl (Nat.le_of_ble_eq_true rfl) (fun _ => rfl) (fun _ => rfl) (by with_reducible first | exact wS_28_0 _ _ _ _) ?_
      exact lb_named S x f (in63y c23)
  · exact absurd c5 (by rw [f.op]; decide)
theorem inD (x : Int32) : ((if x < 0 then 0 else if 24031 < x then 0 else 1 : Int32) = 0) ↔ ¬ (¬ x < 0 ∧ x < 24032) := by
  by_cases h1 : x < 0
  · simp [h1]
  · have e : 24031 < x ↔ ¬ x < 24032 := by
      rw [Int32.lt_iff_toInt_lt, Int32.lt_iff_toInt_lt]
      show (24031 : Int) < x.toInt ↔ ¬ x.toInt < 24032
      omega
    by_cases h2 : 24031 < x
    · simp [h1, h2, e.mp h2]
    · have h3 : x < 24032 := Classical.byContradiction fun z => h2 (e.mpr z)
      simp [h1, h2, h3]
set_option maxRecDepth 100000 in
set_option maxHeartbeats 4000000 in
theorem lb_poke (S : gS) (x y : Int32) (hb : ¬ (¬ x < 0 ∧ x < 24032)) : G MX5_poke (1, 22) 20 [some (.ref 28), some (.int x), some (.int y), none] [] (wRf Γ τ (mS S 28 0 1)) 0 0 (gN (wRf Γ τ) fun v S' => ∃ r : Int32, v = .int r ∧ (((¬ x < 0 ∧ x < 24032) ∧ S'.1 28 0 = 0 ∧ r = S.2.1 29 x.toNatClampNeg) ∨ (¬ (¬ x < 0 ∧ x < 24032) ∧ S'.1 28 0 = 1))) := by
  refine g_aload_n dX5_poke_20 rfl rfl ?_
  refine g_get dX5_poke_21 flX5_75 rfl rfl ?_
  rw [mS_same]
  refine g_if_le (tgt := 29) dX5_poke_24 (by decide) (fun c24 => ?_) (fun c24 => ?_)
  · exact absurd c24 (by decide)
  · refine g_iconst (v := 0) dX5_poke_27 (by decide) ?_
    refine g_iret dX5_poke_28 rfl ⟨_, _, rfl, rfl, ?_⟩
    exact ⟨_, rfl, Or.inr ⟨hb, mS_same _ _ _ _⟩⟩
set_option maxRecDepth 100000 in
set_option maxHeartbeats 4000000 in
theorem lg_poke (S : gS) (x y : Int32) (hx : ¬ x < 0 ∧ x < 24032) : G MX5_poke (1, 22) 20 [some (.ref 28), some (.int x), some (.int y), none] [] (wRf Γ τ (mS S 28 0 0)) 0 0 (gN (wRf Γ τ) fun v S' => ∃ r : Int32, v = .int r ∧ (((¬ x < 0 ∧ x < 24032) ∧ S'.1 28 0 = 0 ∧ r = S.2.1 29 x.toNatClampNeg) ∨ (¬ (¬ x < 0 ∧ x < 24032) ∧ S'.1 28 0 = 1))) := by
  refine g_aload_n dX5_poke_20 rfl rfl ?_
  refine g_get dX5_poke_21 flX5_75 rfl rfl ?_
  rw [mS_same]
  refine g_if_le (tgt := 29) dX5_poke_24 (by decide) (fun c24 => ?_) (fun c24 => ?_)
  · refine g_aload_n dX5_poke_29 rfl rfl ?_
    refine g_get dX5_poke_30 flX5_7 rfl rfl ?_
    refine g_iload_n dX5_poke_33 rfl rfl ?_
    refine g_iald dX5_poke_34 rfl (vin2 (N := 24032) (by decide) hx.1 hx.2) ?_
    refine g_istore_n dX5_poke_35 rfl (by decide) ?_
    refine g_aload_n dX5_poke_36 rfl rfl ?_
    refine g_get dX5_poke_37 flX5_7 rfl rfl ?_
    refine g_iload_n dX5_poke_40 rfl rfl ?_
    refine g_iload_n dX5_poke_41 rfl rfl ?_
    refine g_iload_n dX5_poke_42 rfl rfl ?_
    refine g_sipush (v := 255) dX5_poke_43 (by decide) ?_
    refine g_iand dX5_poke_46 ?_
    refine g_ixor dX5_poke_47 ?_
    refine p_iast dX5_poke_48 rfl (vin2 (N := 24032) (by decide) hx.1 hx.2) (by with_reducible first | exact wA_29 _ _ _ _ | exact wA_30 _ _ _ _ | exact wA_31 _ _ _ _ | exact wA_32 _ _ _ _ | exact wA_33 _ _ _ _ | exact wA_34 _ _ _ _ | exact wA_35 _ _ _ _ | exact wA_36 _ _ _ _ | exact wA_37 _ _ _ _ | exact wA_38 _ _ _ _ | exact wA_39 _ _ _ _ | exact wA_40 _ _ _ _ | exact wA_41 _ _ _ _ | exact wA_42 _ _ _ _ | exact wA_43 _ _ _ _ | exact wA_44 _ _ _ _ | exact wA_45 _ _ _ _ | exact wA_46 _ _ _ _ | exact wA_47 _ _ _ _) ?_
    refine g_iload_n dX5_poke_49 rfl rfl ?_
    refine g_iret dX5_poke_50 rfl ⟨_, _, rfl, rfl, ?_⟩
    exact ⟨_, rfl, Or.inl ⟨hx, mS_same S 28 0 0, rfl⟩⟩
  · exact absurd (by decide) c24
set_option maxRecDepth 100000 in
set_option maxHeartbeats 4000000 in
theorem m_poke (S : gS) (x y : Int32) : gCt MX5_poke (1, 22) 0 0 [.ref 28, .int x, .int y] (wRf Γ τ S) (gN (wRf Γ τ) fun v S' => ∃ r : Int32, v = .int r ∧ (((¬ x < 0 ∧ x < 24032) ∧ S'.1 28 0 = 0 ∧ r = S.2.1 29 x.toNatClampNeg) ∨ (¬ (¬ x < 0 ∧ x < 24032) ∧ S'.1 28 0 = 1))) := by
  refine gCt.of (ls := [some (.ref 28), some (.int x), some (.int y), none]) 1 (by decide) rfl (Nat.le_of_ble_eq_true rfl) ?_
  refine g_aload_n dX5_poke_0 rfl rfl ?_
  refine g_iload_n dX5_poke_1 rfl rfl ?_
  refine g_iconst (v := 0) dX5_poke_2 (by decide) ?_
  refine g_sipush (v := 24031) dX5_poke_3 (by decide) ?_
  refine cS3N (fun _ _ => rfl) dX5_poke_6 mlX5_133 isX5_in (m_in _ _ _ _) (by decide) (Nat.le_of_ble_eq_true rfl) (Nat.le_of_ble_eq_true rfl) (Nat.le_of_ble_eq_true rfl) ?_
  rintro _ _ ⟨rfl, rfl⟩
  refine g_if_eq (tgt := 16) dX5_poke_9 (by decide) (fun c9 => ?_) (fun c9 => ?_)
  · refine g_iconst (v := 1) dX5_poke_16 (by decide) ?_
    refine p_put dX5_poke_17 fpX5_75 rfl (Nat.le_of_ble_eq_true rfl) (fun _ => rfl) (fun _ => rfl) (by with_reducible first | exact wS_28_0 _ _ _ _) ?_
    exact lb_poke S x y ((inD x).mp c9)
  · refine g_iconst (v := 0) dX5_poke_12 (by decide) ?_
    refine g_goto (tgt := 17) dX5_poke_13 (by decide) ?_
    refine p_put dX5_poke_17 fpX5_75 rfl (Nat.le_of_ble_eq_true rfl) (fun _ => rfl) (fun _ => rfl) (by with_reducible first | exact wS_28_0 _ _ _ _) ?_
    exact lg_poke S x y (Classical.byContradiction fun q => c9 ((inD x).mpr q))
set_option maxRecDepth 100000 in
set_option maxHeartbeats 4000000 in
theorem lb_byteAt (S : gS) (x : Int32) (hb : ¬ (¬ x < 0 ∧ x < 24032)) : G MX5_byteAt (1, 22) 20 [some (.ref 28), some (.int x)] [] (wRf Γ τ (mS S 28 0 1)) 0 0 (gN (wRf Γ τ) fun v S' => ∃ r : Int32, v = .int r ∧ (((¬ x < 0 ∧ x < 24032) ∧ S'.1 28 0 = 0 ∧ r = S.2.1 29 x.toNatClampNeg) ∨ (¬ (¬ x < 0 ∧ x < 24032) ∧ S'.1 28 0 = 1))) := by
  refine g_aload_n dX5_byteAt_20 rfl rfl ?_
  refine g_get dX5_byteAt_21 flX5_75 rfl rfl ?_
  rw [mS_same]
  refine g_if_le (tgt := 31) dX5_byteAt_24 (by decide) (fun c24 => ?_) (fun c24 => ?_)
  · exact absurd c24 (by decide)
  · refine g_iconst (v := 0) dX5_byteAt_27 (by decide) ?_
    refine g_goto (tgt := 37) dX5_byteAt_28 (by decide) ?_
    refine g_iret dX5_byteAt_37 rfl ⟨_, _, rfl, rfl, ?_⟩
    exact ⟨_, rfl, Or.inr ⟨hb, mS_same _ _ _ _⟩⟩
set_option maxRecDepth 100000 in
set_option maxHeartbeats 4000000 in
theorem lg_byteAt (S : gS) (x : Int32) (hx : ¬ x < 0 ∧ x < 24032) : G MX5_byteAt (1, 22) 20 [some (.ref 28), some (.int x)] [] (wRf Γ τ (mS S 28 0 0)) 0 0 (gN (wRf Γ τ) fun v S' => ∃ r : Int32, v = .int r ∧ (((¬ x < 0 ∧ x < 24032) ∧ S'.1 28 0 = 0 ∧ r = S.2.1 29 x.toNatClampNeg) ∨ (¬ (¬ x < 0 ∧ x < 24032) ∧ S'.1 28 0 = 1))) := by
  refine g_aload_n dX5_byteAt_20 rfl rfl ?_
  refine g_get dX5_byteAt_21 flX5_75 rfl rfl ?_
  rw [mS_same]
  refine g_if_le (tgt := 31) dX5_byteAt_24 (by decide) (fun c24 => ?_) (fun c24 => ?_)
  · refine g_aload_n dX5_byteAt_31 rfl rfl ?_
    refine g_get dX5_byteAt_32 flX5_7 rfl rfl ?_
    refine g_iload_n dX5_byteAt_35 rfl rfl ?_
    refine g_iald dX5_byteAt_36 rfl (vin2 (N := 24032) (by decide) hx.1 hx.2) ?_
    refine g_iret dX5_byteAt_37 rfl ⟨_, _, rfl, rfl, ?_⟩
    exact ⟨_, rfl, Or.inl ⟨hx, mS_same S 28 0 0, rfl⟩⟩
  · exact absurd (by decide) c24
set_option maxRecDepth 100000 in
set_option maxHeartbeats 4000000 in
theorem m_byteAt (S : gS) (x : Int32) : gCt MX5_byteAt (1, 22) 0 0 [.ref 28, .int x] (wRf Γ τ S) (gN (wRf Γ τ) fun v S' => ∃ r : Int32, v = .int r ∧ (((¬ x < 0 ∧ x < 24032) ∧ S'.1 28 0 = 0 ∧ r = S.2.1 29 x.toNatClampNeg) ∨ (¬ (¬ x < 0 ∧ x < 24032) ∧ S'.1 28 0 = 1))) := by
  refine gCt.of (ls := [some (.ref 28), some (.int x)]) 0 (by decide) rfl (Nat.le_of_ble_eq_true rfl) ?_
  refine g_aload_n dX5_byteAt_0 rfl rfl ?_
  refine g_iload_n dX5_byteAt_1 rfl rfl ?_
  refine g_iconst (v := 0) dX5_byteAt_2 (by decide) ?_
  refine g_sipush (v := 24031) dX5_byteAt_3 (by decide) ?_
  refine cS3N (fun _ _ => rfl) dX5_byteAt_6 mlX5_133 isX5_in (m_in _ _ _ _) (by decide) (Nat.le_of_ble_eq_true rfl) (Nat.le_of_ble_eq_true rfl) (Nat.le_of_ble_eq_true rfl) ?_
  rintro _ _ ⟨rfl, rfl⟩
  refine g_if_eq (tgt := 16) dX5_byteAt_9 (by decide) (fun c9 => ?_) (fun c9 => ?_)
  · refine g_iconst (v := 1) dX5_byteAt_16 (by decide) ?_
    refine p_put dX5_byteAt_17 fpX5_75 rfl (Nat.le_of_ble_eq_true rfl) (fun _ => rfl) (fun _ => rfl) (by with_reducible first | exact wS_28_0 _ _ _ _) ?_
    exact lb_byteAt S x ((inD x).mp c9)
  · refine g_iconst (v := 0) dX5_byteAt_12 (by decide) ?_
    refine g_goto (tgt := 17) dX5_byteAt_13 (by decide) ?_
    refine p_put dX5_byteAt_17 fpX5_75 rfl (Nat.le_of_ble_eq_true rfl) (fun _ => rfl) (fun _ => rfl) (by with_reducible first | exact wS_28_0 _ _ _ _) ?_
    exact lg_byteAt S x (Classical.byContradiction fun q => c9 ((inD x).mpr q))
end
