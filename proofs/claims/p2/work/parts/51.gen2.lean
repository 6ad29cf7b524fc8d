section
variable {Γ : gS} {τ : gW}
theorem Mr.t {R : gS} {V c : Nat} (h : Mr R V c) (v : Int32) : Mr (mS R 28 0 v) V c := h
theorem n_edges (S : gS) (x : Int32) (a : Nat) (ha : a < 64) (V c : Nat) (h : Mr S V c) (hx : x = -1 ∨ ∃ i : Nat, i < V ∧ x = nI i) : gCt MX5_edges (0, 0) 0 0 [.ref 28, .int x, .int (nI a)] (wRf Γ τ S) (gN (wRf Γ τ) fun v S' => (∃ r : Int64, v = .long r) ∧ S = S') := by
  rcases hx with rfl | ⟨i, hi, rfl⟩
  · exact n_edges0 S a ha
  · exact n_edgesV S i a ha V c h hi
set_option maxRecDepth 100000 in
set_option maxHeartbeats 400000 in
theorem lb_has (S : gS) (x y z : Int32) (V c : Nat) (h : Mr S V c) (tv : Int32) (htv : ¬ tv = 0) : G MX5_has (3, 64) 48 [some (.ref 28), some (.int x), some (.int y), some (.int z)] [] (wRf Γ τ (mS S 28 0 tv)) 0 0 (gN (wRf Γ τ) fun v S' => (∃ r : Int32, v = .int r) ∧ ∃ t : Int32, S' = mS S 28 0 t) := by
  refine g_aload_n dX5_has_48 rfl rfl ?_
  refine g_get dX5_has_49 flX5_75 rfl rfl ?_
  rw [mS_same]
  refine g_if_ne (tgt := 74) dX5_has_52 (by decide) (fun c52 => ?_) (fun c52 => ?_)
  · refine g_iconst (v := 0) dX5_has_74 (by decide) ?_
    refine g_zret dX5_has_75 rfl (by first | rfl | assumption) ⟨_, _, rfl, rfl, ?_⟩
    exact ⟨⟨_, rfl⟩, _, rfl⟩
  · exact absurd c52 htv
set_option maxRecDepth 100000 in
set_option maxHeartbeats 400000 in
theorem lg_has (S : gS) (x y z : Int32) (V c : Nat) (h : Mr S V c) (hx : x = -1 ∨ ∃ i : Nat, i < V ∧ x = nI i) (hy : inN y) (hz : inN z) : G MX5_has (3, 64) 48 [some (.ref 28), some (.int x), some (.int y), some (.int z)] [] (wRf Γ τ (mS S 28 0 0)) 0 0 (gN (wRf Γ τ) fun v S' => (∃ r : Int32, v = .int r) ∧ ∃ t : Int32, S' = mS S 28 0 t) := by
  obtain ⟨a, ha, rfl⟩ := inNi hy
  refine g_aload_n dX5_has_48 rfl rfl ?_
  refine g_get dX5_has_49 flX5_75 rfl rfl ?_
  rw [mS_same]
  refine g_if_ne (tgt := 74) dX5_has_52 (by decide) (fun c52 => ?_) (fun c52 => ?_)
  · refine g_iconst (v := 0) dX5_has_74 (by decide) ?_
    refine g_zret dX5_has_75 rfl (by first | rfl | assumption) ⟨_, _, rfl, rfl, ?_⟩
    exact ⟨⟨_, rfl⟩, _, rfl⟩
  · refine g_aload_n dX5_has_55 rfl rfl ?_
    refine g_iload_n dX5_has_56 rfl rfl ?_
    refine g_iload_n dX5_has_57 rfl rfl ?_
    refine cV2N (fun _ _ => rfl) dX5_has_58 mlX5_178 imX5_edges seX5_edges rfl rfl (n_edges _ _ _ ha V c (h.t 0) hx) (by decide) (Nat.le_of_ble_eq_true rfl) (Nat.le_of_ble_eq_true rfl) (Nat.le_of_ble_eq_true rfl) ?_
    rintro _ _ ⟨⟨ed, rfl⟩, rfl⟩
    refine g_iload_n dX5_has_61 rfl rfl ?_
    refine g_lushr dX5_has_62 ?_
    refine g_lconst (v := 1) dX5_has_63 (by decide) ?_
    refine g_land dX5_has_64 ?_
    refine g_lconst (v := 1) dX5_has_65 (by decide) ?_
    refine g_lcmp dX5_has_66 ?_
    refine g_if_ne (tgt := 74) dX5_has_67 (by decide) (fun c67 => ?_) (fun c67 => ?_)
    · refine g_iconst (v := 0) dX5_has_74 (by decide) ?_
      refine g_zret dX5_has_75 rfl (by first | rfl | assumption) ⟨_, _, rfl, rfl, ?_⟩
      exact ⟨⟨_, rfl⟩, _, rfl⟩
    · refine g_iconst (v := 1) dX5_has_70 (by decide) ?_
      refine g_goto (tgt := 75) dX5_has_71 (by decide) ?_
      refine g_zret dX5_has_75 rfl (by first | rfl | assumption) ⟨_, _, rfl, rfl, ?_⟩
      exact ⟨⟨_, rfl⟩, _, rfl⟩
set_option maxRecDepth 100000 in
set_option maxHeartbeats 400000 in
theorem n_has (S : gS) (x y z : Int32) (V c : Nat) (h : Mr S V c) : gCt MX5_has (3, 64) 0 0 [.ref 28, .int x, .int y, .int z] (wRf Γ τ S) (gN (wRf Γ τ) fun v S' => (∃ r : Int32, v = .int r) ∧ ∃ t : Int32, S' = mS S 28 0 t) := by
  refine gCt.of (ls := [some (.ref 28), some (.int x), some (.int y), some (.int z)]) 0 (by decide) rfl (Nat.le_of_ble_eq_true rfl) ?_
  refine g_aload_n dX5_has_0 rfl rfl ?_
  refine g_aload_n dX5_has_1 rfl rfl ?_
  refine g_get dX5_has_2 flX5_94 rfl rfl ?_
  refine g_if_ne (tgt := 12) dX5_has_5 (by decide) (fun c5 => ?_) (fun c5 => ?_)
  · refine g_aload_n dX5_has_12 rfl rfl ?_
    refine g_iload_n dX5_has_13 rfl rfl ?_
    refine cV1N (fun _ _ => rfl) dX5_has_14 mlX5_203 imX5_isVersion seX5_isVersion rfl rfl (n_isVersion _ _ V h.1 h.2.1) (by decide) (Nat.le_of_ble_eq_true rfl) (Nat.le_of_ble_eq_true rfl) (Nat.le_of_ble_eq_true rfl) ?_
    rintro _ _ ⟨⟨iv, rfl, iv01, hiv⟩, rfl⟩
    refine g_if_eq (tgt := 40) dX5_has_17 (by decide) (fun c17 => ?_) (fun c17 => ?_)
    · refine g_iconst (v := 2) dX5_has_40 (by decide) ?_
      refine g_goto (tgt := 45) dX5_has_41 (by decide) ?_
      refine p_put dX5_has_45 fpX5_75 rfl (Nat.le_of_ble_eq_true rfl) (fun _ => rfl) (fun _ => rfl) (by with_reducible first | exact wS_28_0 _ _ _ _) ?_
      exact lb_has S x y z V c h 2 (by decide)
    · refine g_iload_n dX5_has_20 rfl rfl ?_
      refine g_iconst (v := 0) dX5_has_21 (by decide) ?_
      refine g_bipush (v := 63) dX5_has_22 (by decide) ?_
      refine cS3N (fun _ _ => rfl) dX5_has_24 mlX5_133 isX5_in (m_in _ _ _ _) (by decide) (Nat.le_of_ble_eq_true rfl) (Nat.le_of_ble_eq_true rfl) (Nat.le_of_ble_eq_true rfl) ?_
      rintro _ _ ⟨rfl, rfl⟩
      refine g_if_eq (tgt := 40) dX5_has_27 (by decide) (fun c27 => ?_) (fun c27 => ?_)
      · refine g_iconst (v := 2) dX5_has_40 (by decide) ?_
        refine g_goto (tgt := 45) dX5_has_41 (by decide) ?_
        refine p_put dX5_has_45 fpX5_75 rfl (Nat.le_of_ble_eq_true rfl) (fun _ => rfl) (fun _ => rfl) (by with_reducible first | exact wS_28_0 _ _ _ _) ?_
        exact lb_has S x y z V c h 2 (by decide)
      · refine g_iload_n dX5_has_30 rfl rfl ?_
        refine g_iconst (v := 0) dX5_has_31 (by decide) ?_
        refine g_bipush (v := 63) dX5_has_32 (by decide) ?_
        refine cS3N (fun _ _ => rfl) dX5_has_34 mlX5_133 isX5_in (m_in _ _ _ _) (by decide) (Nat.le_of_ble_eq_true rfl) (Nat.le_of_ble_eq_true rfl) (Nat.le_of_ble_eq_true rfl) ?_
        rintro _ _ ⟨rfl, rfl⟩
        refine g_if_ne (tgt := 44) dX5_has_37 (by decide) (fun c37 => ?_) (fun c37 => ?_)
        · refine g_iconst (v := 0) dX5_has_44 (by decide) ?_
          refine p_put dX5_has_45 fpX5_75 rfl (Nat.le_of_ble_eq_true rfl) (fun _ => rfl) (fun _ => rfl) (by with_reducible first | exact wS_28_0 _ _ _ _) ?_
          exact lg_has S x y z V c h (hiv c17) (in63n c27) (in63n c37)
        · refine g_iconst (v := 2) dX5_has_40 (by decide) ?_
          refine g_goto (tgt := 45) dX5_has_41 (by decide) ?_
          refine p_put dX5_has_45 fpX5_75 rfl (Nat.le_of_ble_eq_true rfl) (fun _ => rfl) (fun _ => rfl) (by with_reducible first | exact wS_28_0 _ _ _ _) ?_
          exact lb_has S x y z V c h 2 (by decide)
  · refine g_iconst (v := 1) dX5_has_8 (by decide) ?_
    refine g_goto (tgt := 45) dX5_has_9 (by decide) ?_
    refine p_put dX5_has_45 fpX5_75 rfl (Nat.le_of_ble_eq_true rfl) (fun _ => rfl) (fun _ => rfl) (by with_reducible first | exact wS_28_0 _ _ _ _) ?_
    exact lb_has S x y z V c h 1 (by decide)
set_option maxRecDepth 100000 in
set_option maxHeartbeats 400000 in
theorem lb_chunk (S : gS) (x y : Int32) (V c : Nat) (h : Mr S V c) (tv : Int32) (htv : ¬ tv ≤ 0) : G MX5_chunk (2, 43) 38 [some (.ref 28), some (.int x), some (.int y)] [] (wRf Γ τ (mS S 28 0 tv)) 0 0 (gN (wRf Γ τ) fun v S' => (∃ r : Int32, v = .int r) ∧ ∃ t : Int32, S' = mS S 28 0 t) := by
  refine g_aload_n dX5_chunk_38 rfl rfl ?_
  refine g_get dX5_chunk_39 flX5_75 rfl rfl ?_
  rw [mS_same]
  refine g_if_le (tgt := 49) dX5_chunk_42 (by decide) (fun c42 => ?_) (fun c42 => ?_)
  · exact absurd c42 htv
  · refine g_iconst (v := 0) dX5_chunk_45 (by decide) ?_
    refine g_goto (tgt := 60) dX5_chunk_46 (by decide) ?_
    refine g_iret dX5_chunk_60 rfl ⟨_, _, rfl, rfl, ?_⟩
    exact ⟨⟨_, rfl⟩, _, rfl⟩
set_option maxRecDepth 100000 in
set_option maxHeartbeats 400000 in
theorem lg_chunk (S : gS) (x y : Int32) (V c : Nat) (h : Mr S V c) (hx : ∃ i : Nat, i < V ∧ x = nI i) (hy : ¬ (if y < 0 then 0 else if 7 < y then 0 else 1 : Int32) = 0) : G MX5_chunk (2, 43) 38 [some (.ref 28), some (.int x), some (.int y)] [] (wRf Γ τ (mS S 28 0 0)) 0 0 (gN (wRf Γ τ) fun v S' => (∃ r : Int32, v = .int r) ∧ ∃ t : Int32, S' = mS S 28 0 t) := by
  obtain ⟨i, hi, rfl⟩ := hx
  obtain ⟨g, hg, rfl⟩ := inV (V := 8) (by decide) hy
  have hV := h.2.1
  refine g_aload_n dX5_chunk_38 rfl rfl ?_
  refine g_get dX5_chunk_39 flX5_75 rfl rfl ?_
  rw [mS_same]
  refine g_if_le (tgt := 49) dX5_chunk_42 (by decide) (fun c42 => ?_) (fun c42 => ?_)
  · refine g_aload_n dX5_chunk_49 rfl rfl ?_
    refine g_get dX5_chunk_50 flX5_35 rfl rfl ?_
    refine g_bipush (v := 8) dX5_chunk_53 (by decide) ?_
    refine g_iload_n dX5_chunk_55 rfl rfl ?_
    refine g_imul dX5_chunk_56 ?_
    refine g_iload_n dX5_chunk_57 rfl rfl ?_
    refine g_iadd dX5_chunk_58 ?_
    refine g_iald dX5_chunk_59 rfl (ix8n (by omega) (by decide)) ?_
    refine g_iret dX5_chunk_60 rfl ⟨_, _, rfl, rfl, ?_⟩
    exact ⟨⟨_, rfl⟩, _, rfl⟩
  · exact absurd (by decide) c42
set_option maxRecDepth 100000 in
set_option maxHeartbeats 400000 in
theorem n_chunk (S : gS) (x y : Int32) (V c : Nat) (h : Mr S V c) : gCt MX5_chunk (2, 43) 0 0 [.ref 28, .int x, .int y] (wRf Γ τ S) (gN (wRf Γ τ) fun v S' => (∃ r : Int32, v = .int r) ∧ ∃ t : Int32, S' = mS S 28 0 t) := by
  refine gCt.of (ls := [some (.ref 28), some (.int x), some (.int y)]) 0 (by decide) rfl (Nat.le_of_ble_eq_true rfl) ?_
  refine g_aload_n dX5_chunk_0 rfl rfl ?_
  refine g_aload_n dX5_chunk_1 rfl rfl ?_
  refine g_get dX5_chunk_2 flX5_94 rfl rfl ?_
  refine g_if_ne (tgt := 12) dX5_chunk_5 (by decide) (fun c5 => ?_) (fun c5 => ?_)
  · refine g_aload_n dX5_chunk_12 rfl rfl ?_
    refine g_iload_n dX5_chunk_13 rfl rfl ?_
    refine cV1N (fun _ _ => rfl) dX5_chunk_14 mlX5_152 imX5_isThere seX5_isThere rfl rfl (n_isThere _ _ V h.1 h.2.1) (by decide) (Nat.le_of_ble_eq_true rfl) (Nat.le_of_ble_eq_true rfl) (Nat.le_of_ble_eq_true rfl) ?_
    rintro _ _ ⟨⟨it, rfl, it01, hit⟩, rfl⟩
    refine g_if_eq (tgt := 30) dX5_chunk_17 (by decide) (fun c17 => ?_) (fun c17 => ?_)
    · refine g_iconst (v := 2) dX5_chunk_30 (by decide) ?_
      refine g_goto (tgt := 35) dX5_chunk_31 (by decide) ?_
      refine p_put dX5_chunk_35 fpX5_75 rfl (Nat.le_of_ble_eq_true rfl) (fun _ => rfl) (fun _ => rfl) (by with_reducible first | exact wS_28_0 _ _ _ _) ?_
      exact lb_chunk S x y V c h 2 (by decide)
    · refine g_iload_n dX5_chunk_20 rfl rfl ?_
      refine g_iconst (v := 0) dX5_chunk_21 (by decide) ?_
      refine g_bipush (v := 7) dX5_chunk_22 (by decide) ?_
      refine cS3N (fun _ _ => rfl) dX5_chunk_24 mlX5_133 isX5_in (m_in _ _ _ _) (by decide) (Nat.le_of_ble_eq_true rfl) (Nat.le_of_ble_eq_true rfl) (Nat.le_of_ble_eq_true rfl) ?_
      rintro _ _ ⟨rfl, rfl⟩
      refine g_if_ne (tgt := 34) dX5_chunk_27 (by decide) (fun c27 => ?_) (fun c27 => ?_)
      · refine g_iconst (v := 0) dX5_chunk_34 (by decide) ?_
        refine p_put dX5_chunk_35 fpX5_75 rfl (Nat.le_of_ble_eq_true rfl) (fun _ => rfl) (fun _ => rfl) (by with_reducible first | exact wS_28_0 _ _ _ _) ?_
        exact lg_chunk S x y V c h (hit c17) c27
      · refine g_iconst (v := 2) dX5_chunk_30 (by decide) ?_
        refine g_goto (tgt := 35) dX5_chunk_31 (by decide) ?_
        refine p_put dX5_chunk_35 fpX5_75 rfl (Nat.le_of_ble_eq_true rfl) (fun _ => rfl) (fun _ => rfl) (by with_reducible first | exact wS_28_0 _ _ _ _) ?_
        exact lb_chunk S x y V c h 2 (by decide)
  · refine g_iconst (v := 1) dX5_chunk_8 (by decide) ?_
    refine g_goto (tgt := 35) dX5_chunk_9 (by decide) ?_
    refine p_put dX5_chunk_35 fpX5_75 rfl (Nat.le_of_ble_eq_true rfl) (fun _ => rfl) (fun _ => rfl) (by with_reducible first | exact wS_28_0 _ _ _ _) ?_
    exact lb_chunk S x y V c h 1 (by decide)
set_option maxRecDepth 100000 in
set_option maxHeartbeats 400000 in
theorem lb_named (S : gS) (x : Int32) (V c : Nat) (h : Mr S V c) (tv : Int32) (htv : ¬ tv ≤ 0) : G MX5_named (1, 25) 34 [some (.ref 28), some (.int x)] [] (wRf Γ τ (mS S 28 0 tv)) 0 0 (gN (wRf Γ τ) fun v S' => (∃ r : Int32, v = .int r) ∧ ∃ t : Int32, S' = mS S 28 0 t) := by
  refine g_aload_n dX5_named_34 rfl rfl ?_
  refine g_get dX5_named_35 flX5_75 rfl rfl ?_
  rw [mS_same]
  refine g_if_le (tgt := 45) dX5_named_38 (by decide) (fun c38 => ?_) (fun c38 => ?_)
  · exact absurd c38 htv
  · refine g_iconst (v := 0) dX5_named_41 (by decide) ?_
    refine g_goto (tgt := 50) dX5_named_42 (by decide) ?_
    refine g_iret dX5_named_50 rfl ⟨_, _, rfl, rfl, ?_⟩
    exact ⟨⟨_, rfl⟩, _, rfl⟩
set_option maxRecDepth 100000 in
set_option maxHeartbeats 400000 in
theorem lg_named (S : gS) (x : Int32) (V c : Nat) (h : Mr S V c) : G MX5_named (1, 25) 34 [some (.ref 28), some (.int x)] [] (wRf Γ τ (mS S 28 0 0)) 0 0 (gN (wRf Γ τ) fun v S' => (∃ r : Int32, v = .int r) ∧ ∃ t : Int32, S' = mS S 28 0 t) := by
  refine g_aload_n dX5_named_34 rfl rfl ?_
  refine g_get dX5_named_35 flX5_75 rfl rfl ?_
  rw [mS_same]
  refine g_if_le (tgt := 45) dX5_named_38 (by decide) (fun c38 => ?_) (fun c38 => ?_)
  · refine g_aload_n dX5_named_45 rfl rfl ?_
    refine g_iload_n dX5_named_46 rfl rfl ?_
    refine cV1N (fun _ _ => rfl) dX5_named_47 mlX5_145 imX5_namedBy seX5_namedBy rfl rfl (n_namedBy _ _ V (h.t 0).1 h.2.1) (by decide) (Nat.le_of_ble_eq_true rfl) (Nat.le_of_ble_eq_true rfl) (Nat.le_of_ble_eq_true rfl) ?_
    rintro _ _ ⟨⟨nb, rfl⟩, rfl⟩
    refine g_iret dX5_named_50 rfl ⟨_, _, rfl, rfl, ?_⟩
    exact ⟨⟨_, rfl⟩, _, rfl⟩
  · exact absurd (by decide) c38
set_option maxRecDepth 100000 in
set_option maxHeartbeats 400000 in
theorem n_named (S : gS) (x : Int32) (V c : Nat) (h : Mr S V c) : gCt MX5_named (1, 25) 0 0 [.ref 28, .int x] (wRf Γ τ S) (gN (wRf Γ τ) fun v S' => (∃ r : Int32, v = .int r) ∧ ∃ t : Int32, S' = mS S 28 0 t) := by
  refine gCt.of (ls := [some (.ref 28), some (.int x)]) 0 (by decide) rfl (Nat.le_of_ble_eq_true rfl) ?_
  refine g_aload_n dX5_named_0 rfl rfl ?_
  refine g_aload_n dX5_named_1 rfl rfl ?_
  refine g_get dX5_named_2 flX5_94 rfl rfl ?_
  refine g_if_ne (tgt := 12) dX5_named_5 (by decide) (fun c5 => ?_) (fun c5 => ?_)
  · refine g_iload_n dX5_named_12 rfl rfl ?_
    refine g_iconst (v := 0) dX5_named_13 (by decide) ?_
    refine g_aload_n dX5_named_14 rfl rfl ?_
    refine g_get dX5_named_15 flX5_79 rfl rfl ?_
    refine g_iconst (v := 1) dX5_named_18 (by decide) ?_
    refine g_isub dX5_named_19 ?_
    refine cS3N (fun _ _ => rfl) dX5_named_20 mlX5_133 isX5_in (m_in _ _ _ _) (by decide) (Nat.le_of_ble_eq_true rfl) (Nat.le_of_ble_eq_true rfl) (Nat.le_of_ble_eq_true rfl) ?_
    rintro _ _ ⟨rfl, rfl⟩
    refine g_if_ne (tgt := 30) dX5_named_23 (by decide) (fun c23 => ?_) (fun c23 => ?_)
    · refine g_iconst (v := 0) dX5_named_30 (by decide) ?_
      refine p_put dX5_named_31 fpX5_75 rfl (Nat.le_of_ble_eq_true rfl) (fun _ => rfl) (fun _ => rfl) (by with_reducible first | exact wS_28_0 _ _ _ _) ?_
      exact lg_named S x V c h
    · refine g_iconst (v := 2) dX5_named_26 (by decide) ?_
      refine g_goto (tgt := 31) dX5_named_27 (by decide) ?_
      refine p_put dX5_named_31 fpX5_75 rfl (Nat.le_of_ble_eq_true rfl) (fun _ => rfl) (fun _ => rfl) (by with_reducible first | exact wS_28_0 _ _ _ _) ?_
      exact lb_named S x V c h 2 (by decide)
  · refine g_iconst (v := 1) dX5_named_8 (by decide) ?_
    refine g_goto (tgt := 31) dX5_named_9 (by decide) ?_
    refine p_put dX5_named_31 fpX5_75 rfl (Nat.le_of_ble_eq_true rfl) (fun _ => rfl) (fun _ => rfl) (by with_reducible first | exact wS_28_0 _ _ _ _) ?_
    exact lb_named S x V c h 1 (by decide)
set_option maxRecDepth 100000 in
set_option maxHeartbeats 400000 in
theorem lb_usable (S : gS) (x : Int32) (V c : Nat) (h : Mr S V c) (n : Nat) (hn : S.1 28 19 = nI n) (hn2 : n ≤ 100) (tv : Int32) (htv : ¬ tv = 0) : G MX5_usable (2, 43) 34 [some (.ref 28), some (.int x)] [] (wRf Γ τ (mS S 28 0 tv)) 0 0 (gN (wRf Γ τ) fun v S' => (∃ r : Int32, v = .int r) ∧ ∃ t : Int32, S' = mS S 28 0 t) := by
  refine g_aload_n dX5_usable_34 rfl rfl ?_
  refine g_get dX5_usable_35 flX5_75 rfl rfl ?_
  rw [mS_same]
  refine g_if_ne (tgt := 58) dX5_usable_38 (by decide) (fun c38 => ?_) (fun c38 => ?_)
  · refine g_iconst (v := 0) dX5_usable_58 (by decide) ?_
    refine g_zret dX5_usable_59 rfl (by first | rfl | assumption) ⟨_, _, rfl, rfl, ?_⟩
    exact ⟨⟨_, rfl⟩, _, rfl⟩
  · exact absurd c38 htv
set_option maxRecDepth 100000 in
set_option maxHeartbeats 400000 in
theorem lg_usable (S : gS) (x : Int32) (V c : Nat) (h : Mr S V c) (n : Nat) (hn : S.1 28 19 = nI n) (hn2 : n ≤ 100) (ha : ∃ i : Nat, i < n ∧ x = nI i) : G MX5_usable (2, 43) 34 [some (.ref 28), some (.int x)] [] (wRf Γ τ (mS S 28 0 0)) 0 0 (gN (wRf Γ τ) fun v S' => (∃ r : Int32, v = .int r) ∧ ∃ t : Int32, S' = mS S 28 0 t) := by
  refine g_aload_n dX5_usable_34 rfl rfl ?_
  refine g_get dX5_usable_35 flX5_75 rfl rfl ?_
  rw [mS_same]
  refine g_if_ne (tgt := 58) dX5_usable_38 (by decide) (fun c38 => ?_) (fun c38 => ?_)
  · refine g_iconst (v := 0) dX5_usable_58 (by decide) ?_
    refine g_zret dX5_usable_59 rfl (by first | rfl | assumption) ⟨_, _, rfl, rfl, ?_⟩
    exact ⟨⟨_, rfl⟩, _, rfl⟩
  · refine g_aload_n dX5_usable_41 rfl rfl ?_
    refine g_aload_n dX5_usable_42 rfl rfl ?_
    refine g_get dX5_usable_43 flX5_38 rfl rfl ?_
    refine g_iload_n dX5_usable_46 rfl rfl ?_
    refine g_iald dX5_usable_47 rfl (by obtain ⟨i, hi, e⟩ := ha; rw [e]; exact vp_in_nI (by omega) (by decide)) ?_
    refine cV1N (fun _ _ => rfl) dX5_usable_48 mlX5_152 imX5_isThere seX5_isThere rfl rfl (n_isThere _ _ V (h.t 0).1 h.2.1) (by decide) (Nat.le_of_ble_eq_true rfl) (Nat.le_of_ble_eq_true rfl) (Nat.le_of_ble_eq_true rfl) ?_
    rintro _ _ ⟨⟨it, rfl, it01, hit⟩, rfl⟩
    refine g_if_eq (tgt := 58) dX5_usable_51 (by decide) (fun c51 => ?_) (fun c51 => ?_)
    · refine g_iconst (v := 0) dX5_usable_58 (by decide) ?_
      refine g_zret dX5_usable_59 rfl (by first | rfl | assumption) ⟨_, _, rfl, rfl, ?_⟩
      exact ⟨⟨_, rfl⟩, _, rfl⟩
    · refine g_iconst (v := 1) dX5_usable_54 (by decide) ?_
      refine g_goto (tgt := 59) dX5_usable_55 (by decide) ?_
      refine g_zret dX5_usable_59 rfl (by first | rfl | assumption) ⟨_, _, rfl, rfl, ?_⟩
      exact ⟨⟨_, rfl⟩, _, rfl⟩
set_option maxRecDepth 100000 in
set_option maxHeartbeats 400000 in
theorem n_usable (S : gS) (x : Int32) (V c : Nat) (h : Mr S V c) (n : Nat) (hn : S.1 28 19 = nI n) (hn2 : n ≤ 100) : gCt MX5_usable (2, 43) 0 0 [.ref 28, .int x] (wRf Γ τ S) (gN (wRf Γ τ) fun v S' => (∃ r : Int32, v = .int r) ∧ ∃ t : Int32, S' = mS S 28 0 t) := by
  refine gCt.of (ls := [some (.ref 28), some (.int x)]) 0 (by decide) rfl (Nat.le_of_ble_eq_true rfl) ?_
  refine g_aload_n dX5_usable_0 rfl rfl ?_
  refine g_aload_n dX5_usable_1 rfl rfl ?_
  refine g_get dX5_usable_2 flX5_94 rfl rfl ?_
  refine g_if_ne (tgt := 12) dX5_usable_5 (by decide) (fun c5 => ?_) (fun c5 => ?_)
  · refine g_iload_n dX5_usable_12 rfl rfl ?_
    refine g_iconst (v := 0) dX5_usable_13 (by decide) ?_
    refine g_aload_n dX5_usable_14 rfl rfl ?_
    refine g_get dX5_usable_15 flX5_113 rfl rfl ?_
    refine g_iconst (v := 1) dX5_usable_18 (by decide) ?_
    refine g_isub dX5_usable_19 ?_
    refine g_eqi (y := nI n - 1) (by rw [hn]) ?_
    refine cS3N (fun _ _ => rfl) dX5_usable_20 mlX5_133 isX5_in (m_in _ _ _ _) (by decide) (Nat.le_of_ble_eq_true rfl) (Nat.le_of_ble_eq_true rfl) (Nat.le_of_ble_eq_true rfl) ?_
    rintro _ _ ⟨rfl, rfl⟩
    refine g_if_ne (tgt := 30) dX5_usable_23 (by decide) (fun c23 => ?_) (fun c23 => ?_)
    · refine g_iconst (v := 0) dX5_usable_30 (by decide) ?_
      refine p_put dX5_usable_31 fpX5_75 rfl (Nat.le_of_ble_eq_true rfl) (fun _ => rfl) (fun _ => rfl) (by with_reducible first | exact wS_28_0 _ _ _ _) ?_
      exact lg_usable S x V c h n hn hn2 (inV hn2 c23)
    · refine g_iconst (v := 2) dX5_usable_26 (by decide) ?_
      refine g_goto (tgt := 31) dX5_usable_27 (by decide) ?_
      refine p_put dX5_usable_31 fpX5_75 rfl (Nat.le_of_ble_eq_true rfl) (fun _ => rfl) (fun _ => rfl) (by with_reducible first | exact wS_28_0 _ _ _ _) ?_
      exact lb_usable S x V c h n hn hn2 2 (by decide)
  · refine g_iconst (v := 1) dX5_usable_8 (by decide) ?_
    refine g_goto (tgt := 31) dX5_usable_9 (by decide) ?_
    refine p_put dX5_usable_31 fpX5_75 rfl (Nat.le_of_ble_eq_true rfl) (fun _ => rfl) (fun _ => rfl) (by with_reducible first | exact wS_28_0 _ _ _ _) ?_
    exact lb_usable S x V c h n hn hn2 1 (by decide)
set_option maxRecDepth 100000 in
set_option maxHeartbeats 400000 in
theorem lb_mask (S : gS) (x : Int32) (n : Nat) (hn : S.1 28 19 = nI n) (hn2 : n ≤ 100) (tv : Int32) (htv : ¬ tv ≤ 0) : G MX5_mask (1, 22) 34 [some (.ref 28), some (.int x)] [] (wRf Γ τ (mS S 28 0 tv)) 0 0 (gN (wRf Γ τ) fun v S' => (∃ r : Int64, v = .long r) ∧ ∃ t : Int32, S' = mS S 28 0 t) := by
  refine g_aload_n dX5_mask_34 rfl rfl ?_
  refine g_get dX5_mask_35 flX5_75 rfl rfl ?_
  rw [mS_same]
  refine g_if_le (tgt := 45) dX5_mask_38 (by decide) (fun c38 => ?_) (fun c38 => ?_)
  · exact absurd c38 htv
  · refine g_lconst (v := 0) dX5_mask_41 (by decide) ?_
    refine g_goto (tgt := 51) dX5_mask_42 (by decide) ?_
    refine g_lret dX5_mask_51 rfl ⟨_, _, rfl, rfl, ?_⟩
    exact ⟨⟨_, rfl⟩, _, rfl⟩
set_option maxRecDepth 100000 in
set_option maxHeartbeats 400000 in
theorem lg_mask (S : gS) (x : Int32) (n : Nat) (hn : S.1 28 19 = nI n) (hn2 : n ≤ 100) (ha : ∃ i : Nat, i < n ∧ x = nI i) : G MX5_mask (1, 22) 34 [some (.ref 28), some (.int x)] [] (wRf Γ τ (mS S 28 0 0)) 0 0 (gN (wRf Γ τ) fun v S' => (∃ r : Int64, v = .long r) ∧ ∃ t : Int32, S' = mS S 28 0 t) := by
  refine g_aload_n dX5_mask_34 rfl rfl ?_
  refine g_get dX5_mask_35 flX5_75 rfl rfl ?_
  rw [mS_same]
  refine g_if_le (tgt := 45) dX5_mask_38 (by decide) (fun c38 => ?_) (fun c38 => ?_)
  · refine g_aload_n dX5_mask_45 rfl rfl ?_
    refine g_get dX5_mask_46 flX5_41 rfl rfl ?_
    refine g_iload_n dX5_mask_49 rfl rfl ?_
    refine g_lald dX5_mask_50 rfl (by obtain ⟨i, hi, e⟩ := ha; rw [e]; exact vp_in_nI (by omega) (by decide)) ?_
    refine g_lret dX5_mask_51 rfl ⟨_, _, rfl, rfl, ?_⟩
    exact ⟨⟨_, rfl⟩, _, rfl⟩
  · exact absurd (by decide) c38
set_option maxRecDepth 100000 in
set_option maxHeartbeats 400000 in
theorem n_mask (S : gS) (x : Int32) (n : Nat) (hn : S.1 28 19 = nI n) (hn2 : n ≤ 100) : gCt MX5_mask (1, 22) 0 0 [.ref 28, .int x] (wRf Γ τ S) (gN (wRf Γ τ) fun v S' => (∃ r : Int64, v = .long r) ∧ ∃ t : Int32, S' = mS S 28 0 t) := by
  refine gCt.of (ls := [some (.ref 28), some (.int x)]) 0 (by decide) rfl (Nat.le_of_ble_eq_true rfl) ?_
  refine g_aload_n dX5_mask_0 rfl rfl ?_
  refine g_aload_n dX5_mask_1 rfl rfl ?_
  refine g_get dX5_mask_2 flX5_94 rfl rfl ?_
  refine g_if_ne (tgt := 12) dX5_mask_5 (by decide) (fun c5 => ?_) (fun c5 => ?_)
  · refine g_iload_n dX5_mask_12 rfl rfl ?_
    refine g_iconst (v := 0) dX5_mask_13 (by decide) ?_
    refine g_aload_n dX5_mask_14 rfl rfl ?_
    refine g_get dX5_mask_15 flX5_113 rfl rfl ?_
    refine g_iconst (v := 1) dX5_mask_18 (by decide) ?_
    refine g_isub dX5_mask_19 ?_
    refine g_eqi (y := nI n - 1) (by rw [hn]) ?_
    refine cS3N (fun _ _ => rfl) dX5_mask_20 mlX5_133 isX5_in (m_in _ _ _ _) (by decide) (Nat.le_of_ble_eq_true rfl) (Nat.le_of_ble_eq_true rfl) (Nat.le_of_ble_eq_true rfl) ?_
    rintro _ _ ⟨rfl, rfl⟩
    refine g_if_ne (tgt := 30) dX5_mask_23 (by decide) (fun c23 => ?_) (fun c23 => ?_)
    · refine g_iconst (v := 0) dX5_mask_30 (by decide) ?_
      refine p_put dX5_mask_31 fpX5_75 rfl (Nat.le_of_ble_eq_true rfl) (fun _ => rfl) (fun _ => rfl) (by with_reducible first | exact wS_28_0 _ _ _ _) ?_
      exact lg_mask S x n hn hn2 (inV hn2 c23)
    · refine g_iconst (v := 2) dX5_mask_26 (by decide) ?_
      refine g_goto (tgt := 31) dX5_mask_27 (by decide) ?_
      refine p_put dX5_mask_31 fpX5_75 rfl (Nat.le_of_ble_eq_true rfl) (fun _ => rfl) (fun _ => rfl) (by with_reducible first | exact wS_28_0 _ _ _ _) ?_
      exact lb_mask S x n hn hn2 2 (by decide)
  · refine g_iconst (v := 1) dX5_mask_8 (by decide) ?_
    refine g_goto (tgt := 31) dX5_mask_9 (by decide) ?_
    refine p_put dX5_mask_31 fpX5_75 rfl (Nat.le_of_ble_eq_true rfl) (fun _ => rfl) (fun _ => rfl) (by with_reducible first | exact wS_28_0 _ _ _ _) ?_
    exact lb_mask S x n hn hn2 1 (by decide)
end
