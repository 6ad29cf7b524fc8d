/-- the end of a wrapper: its number, the class's memory, the row of one answer -/
def gW2 (R : gS) (Φ : Int32 → Prop) : gR → gW → Prop := fun r w => ∃ (k : Int32) (S : gS) (o : Nat → Int64), r = .inl (some (.int k)) ∧ w = wOf (rtl R (wOut o)) S ∧ ¬ S.1 1 2 < 0 ∧ Φ k
theorem wA_out (R : gS) (o : Nat → Int64) (S : gS) (f : Nat → Int64) : (wOf (rtl R (wOut o)) S).set 48 (.inl (1, 1, .inr (.inl f))) = wOf (rtl R (wOut f)) S := rfl
set_option maxRecDepth 100000 in
set_option maxHeartbeats 4000000 in
theorem w_begin (R : gS) (o : Nat → Int64) (S : gS) (x : Int32) (h0 : ¬ S.1 1 2 < 0) : gCt ML_begin (7, 148) 1 6 [.ref 0, .int x] (wOf (rtl R (wOut o)) S) (gW2 R fun k => (k = 0 ∧ ¬ x < 0 ∧ ¬ x = 0 ∧ x ≤ 65536) ∨ (k = 1 ∧ x < 0) ∨ (k = 2 ∧ ¬ x < 0 ∧ (x = 0 ∨ ¬ x ≤ 65536))) := by
  refine gCt.of (ls := [some (.ref 0), some (.int x), none]) 1 (by decide) rfl (Nat.le_of_ble_eq_true rfl) ?_
  refine g_aload_n dL_begin_0 rfl rfl ?_
  refine g_iload_n dL_begin_1 rfl rfl ?_
  refine cV1Y (fun _ _ => rfl) dL_begin_2 mlL_7 imX4_begin seX4_begin rfl rfl (c_begin _ _ h0) (by decide) (Nat.le_of_ble_eq_true rfl) (Nat.le_of_ble_eq_true rfl) (Nat.le_of_ble_eq_true rfl) ?_ ?_
  · rintro _ ⟨rfl, h1, h2, h3⟩
    refine g_goto (tgt := 14) dL_begin_5 (by decide) ?_
    refine g_iconst (v := 0) dL_begin_14 (by decide) ?_
    refine g_iret dL_begin_15 rfl ⟨_, _, _, rfl, rfl, ?_⟩
    exact ⟨by rw [anewS_w]; decide, Or.inl ⟨rfl, h1, h2, h3⟩⟩
  · rintro E S9 ⟨rfl, ⟨rfl, h1⟩ | ⟨rfl, h1, h2⟩⟩
    · refine GTE.caught (hp := []) (h := (0, 5, 8, 13)) (hr := [(0, 5, 11, 15)]) rfl (fun _ h => nomatch h) (by decide) (by decide) clL_13 2 1 (by decide) (Or.inl ⟨⟨2, by decide⟩, rfl, rfl, dL_begin_8⟩) ?_
      refine g_iconst (v := 1) dL_begin_9 (by decide) ?_
      refine g_iret dL_begin_10 rfl ⟨_, _, _, rfl, rfl, ?_⟩
      exact ⟨h0, Or.inr (Or.inl ⟨rfl, h1⟩)⟩
    · refine GTE.caught (hp := [(0, 5, 8, 13)]) (h := (0, 5, 11, 15)) (hr := []) rfl (fun z hz => by rw [List.mem_singleton.mp hz]; exact Or.inr ⟨by decide, gNA, clL_13, by decide +kernel⟩) (by decide) (by decide) clL_15 2 1 (by decide) (Or.inl ⟨⟨2, by decide⟩, rfl, rfl, dL_begin_11⟩) ?_
      refine g_iconst (v := 2) dL_begin_12 (by decide) ?_
      refine g_iret dL_begin_13 rfl ⟨_, _, _, rfl, rfl, ?_⟩
      exact ⟨h0, Or.inr (Or.inr ⟨rfl, h1, h2⟩)⟩
set_option maxRecDepth 100000 in
set_option maxHeartbeats 4000000 in
theorem w_edge (R : gS) (o : Nat → Int64) (S : gS) (x y z : Int32) (hz : z = 0 ∨ z = 1) (h0 : ¬ S.1 1 2 < 0) : gCt ML_edge (8, 188) 3 18 [.ref 0, .int x, .int y, .int z, .ref 48] (wOf (rtl R (wOut o)) S) (gW2 R fun k => True) := by
  refine gCt.of (ls := [some (.ref 0), some (.int x), some (.int y), some (.int z), some (.ref 48), none]) 1 (by decide) rfl (Nat.le_of_ble_eq_true rfl) ?_
  refine g_aload dL_edge_0 rfl ?_
  refine g_iconst (v := 0) dL_edge_2 (by decide) ?_
  refine g_aload_n dL_edge_3 rfl rfl ?_
  refine g_iload_n dL_edge_4 rfl rfl ?_
  refine g_iload_n dL_edge_5 rfl rfl ?_
  refine g_iload_n dL_edge_6 rfl rfl ?_
  refine cV3X (fun _ _ => rfl) dL_edge_7 mlL_17 imX4_edge seX4_edge rfl rfl (c_edge _ _ _ _ hz h0) (by decide) (Nat.le_of_ble_eq_true rfl) (Nat.le_of_ble_eq_true rfl) (Nat.le_of_ble_eq_true rfl) ?_ ?_
  · rintro _ S1 ⟨⟨r, rfl, -⟩, hcl⟩
    refine g_i2l dL_edge_10 ?_
    refine p_last dL_edge_11 rfl (vp_in_nI (n := 0) (by decide) (by decide)) (by with_reducible first | exact wA_out _ _ _ _) ?_
    refine g_goto (tgt := 23) dL_edge_12 (by decide) ?_
    refine g_iconst (v := 0) dL_edge_23 (by decide) ?_
    refine g_iret dL_edge_24 rfl ⟨_, _, _, rfl, rfl, ?_⟩
    exact ⟨hcl h0, trivial⟩
  · rintro E S9 ⟨rfl, ⟨rfl, h1⟩ | ⟨rfl, h1⟩⟩
    · refine GTE.caught (hp := []) (h := (0, 12, 15, 21)) (hr := [(0, 12, 19, 23)]) rfl (fun _ h => nomatch h) (by decide) (by decide) clL_21 5 2 (by decide) (Or.inr ⟨rfl, dL_edge_15⟩) ?_
      refine g_iconst (v := 1) dL_edge_17 (by decide) ?_
      refine g_iret dL_edge_18 rfl ⟨_, _, _, rfl, rfl, ?_⟩
      exact ⟨h0, trivial⟩
    · refine GTE.caught (hp := [(0, 12, 15, 21)]) (h := (0, 12, 19, 23)) (hr := []) rfl (fun z hz => by rw [List.mem_singleton.mp hz]; exact Or.inr ⟨by decide, gIS, clL_21, by decide +kernel⟩) (by decide) (by decide) clL_23 5 2 (by decide) (Or.inr ⟨rfl, dL_edge_19⟩) ?_
      refine g_iconst (v := 2) dL_edge_21 (by decide) ?_
      refine g_iret dL_edge_22 rfl ⟨_, _, _, rfl, rfl, ?_⟩
      exact ⟨h0, trivial⟩
set_option maxRecDepth 100000 in
set_option maxHeartbeats 4000000 in
theorem w_version (R : gS) (o : Nat → Int64) (S : gS) (h0 : ¬ S.1 1 2 < 0) : gCt ML_version (8, 210) 1 6 [.ref 0, .ref 48] (wOf (rtl R (wOut o)) S) (gW2 R fun k => True) := by
  refine gCt.of (ls := [some (.ref 0), some (.ref 48), none]) 1 (by decide) rfl (Nat.le_of_ble_eq_true rfl) ?_
  refine g_aload_n dL_version_0 rfl rfl ?_
  refine g_iconst (v := 0) dL_version_1 (by decide) ?_
  refine g_aload_n dL_version_2 rfl rfl ?_
  refine cV0X (fun _ _ => rfl) dL_version_3 mlL_25 imX4_version seX4_version rfl rfl (d_version _ h0) (by decide) (Nat.le_of_ble_eq_true rfl) (Nat.le_of_ble_eq_true rfl) (Nat.le_of_ble_eq_true rfl) ?_ ?_
  · rintro _ S1 ⟨⟨r, rfl, -⟩, hcl⟩
    refine g_i2l dL_version_6 ?_
    refine p_last dL_version_7 rfl (vp_in_nI (n := 0) (by decide) (by decide)) (by with_reducible first | exact wA_out _ _ _ _) ?_
    refine g_goto (tgt := 14) dL_version_8 (by decide) ?_
    refine g_iconst (v := 0) dL_version_14 (by decide) ?_
    refine g_iret dL_version_15 rfl ⟨_, _, _, rfl, rfl, ?_⟩
    exact ⟨hcl h0, trivial⟩
  · rintro E S9 ⟨rfl, ⟨rfl, h1⟩ | ⟨rfl, h1⟩⟩
    · refine GTE.caught (hp := []) (h := (0, 8, 11, 21)) (hr := []) rfl (fun _ h => nomatch h) (by decide) (by decide) clL_21 2 1 (by decide) (Or.inl ⟨⟨2, by decide⟩, rfl, rfl, dL_version_11⟩) ?_
      refine g_iconst (v := 1) dL_version_12 (by decide) ?_
      refine g_iret dL_version_13 rfl ⟨_, _, _, rfl, rfl, ?_⟩
      exact ⟨h0, trivial⟩
    · exact h1.elim
set_option maxRecDepth 100000 in
set_option maxHeartbeats 4000000 in
theorem w_keep (R : gS) (o : Nat → Int64) (S : gS) (h0 : ¬ S.1 1 2 < 0) : gCt ML_keep (8, 126) 1 6 [.ref 0, .ref 48] (wOf (rtl R (wOut o)) S) (gW2 R fun k => True) := by
  refine gCt.of (ls := [some (.ref 0), some (.ref 48), none]) 1 (by decide) rfl (Nat.le_of_ble_eq_true rfl) ?_
  refine g_aload_n dL_keep_0 rfl rfl ?_
  refine g_iconst (v := 0) dL_keep_1 (by decide) ?_
  refine g_aload_n dL_keep_2 rfl rfl ?_
  refine cV0X (fun _ _ => rfl) dL_keep_3 mlL_37 imX4_keep seX4_keep rfl rfl (d_keep _ h0) (by decide) (Nat.le_of_ble_eq_true rfl) (Nat.le_of_ble_eq_true rfl) (Nat.le_of_ble_eq_true rfl) ?_ ?_
  · rintro _ S1 ⟨⟨r, rfl, -⟩, hcl⟩
    refine g_i2l dL_keep_6 ?_
    refine p_last dL_keep_7 rfl (vp_in_nI (n := 0) (by decide) (by decide)) (by with_reducible first | exact wA_out _ _ _ _) ?_
    refine g_goto (tgt := 14) dL_keep_8 (by decide) ?_
    refine g_iconst (v := 0) dL_keep_14 (by decide) ?_
    refine g_iret dL_keep_15 rfl ⟨_, _, _, rfl, rfl, ?_⟩
    exact ⟨hcl h0, trivial⟩
  · rintro E S9 ⟨rfl, ⟨rfl, h1⟩ | ⟨rfl, h1⟩⟩
    · refine GTE.caught (hp := []) (h := (0, 8, 11, 21)) (hr := []) rfl (fun _ h => nomatch h) (by decide) (by decide) clL_21 2 1 (by decide) (Or.inl ⟨⟨2, by decide⟩, rfl, rfl, dL_keep_11⟩) ?_
      refine g_iconst (v := 1) dL_keep_12 (by decide) ?_
      refine g_iret dL_keep_13 rfl ⟨_, _, _, rfl, rfl, ?_⟩
      exact ⟨h0, trivial⟩
    · exact h1.elim
set_option maxRecDepth 100000 in
set_option maxHeartbeats 4000000 in
theorem w_badAt (R : gS) (o : Nat → Int64) (S : gS) (h0 : ¬ S.1 1 2 < 0) : gCt ML_badAt (8, 190) 1 6 [.ref 0, .ref 48] (wOf (rtl R (wOut o)) S) (gW2 R fun k => True) := by
  refine gCt.of (ls := [some (.ref 0), some (.ref 48), none]) 1 (by decide) rfl (Nat.le_of_ble_eq_true rfl) ?_
  refine g_aload_n dL_badAt_0 rfl rfl ?_
  refine g_iconst (v := 0) dL_badAt_1 (by decide) ?_
  refine g_aload_n dL_badAt_2 rfl rfl ?_
  refine cV0X (fun _ _ => rfl) dL_badAt_3 mlL_46 imX4_badAt seX4_badAt rfl rfl (d_badAt _) (by decide) (Nat.le_of_ble_eq_true rfl) (Nat.le_of_ble_eq_true rfl) (Nat.le_of_ble_eq_true rfl) ?_ ?_
  · rintro _ S1 ⟨⟨r, rfl, -⟩, hcl⟩
    refine g_i2l dL_badAt_6 ?_
    refine p_last dL_badAt_7 rfl (vp_in_nI (n := 0) (by decide) (by decide)) (by with_reducible first | exact wA_out _ _ _ _) ?_
    refine g_goto (tgt := 14) dL_badAt_8 (by decide) ?_
    refine g_iconst (v := 0) dL_badAt_14 (by decide) ?_
    refine g_iret dL_badAt_15 rfl ⟨_, _, _, rfl, rfl, ?_⟩
    exact ⟨hcl h0, trivial⟩
  · rintro E S9 ⟨rfl, ⟨rfl, h1⟩ | ⟨rfl, h1⟩⟩
    · refine GTE.caught (hp := []) (h := (0, 8, 11, 21)) (hr := []) rfl (fun _ h => nomatch h) (by decide) (by decide) clL_21 2 1 (by decide) (Or.inl ⟨⟨2, by decide⟩, rfl, rfl, dL_badAt_11⟩) ?_
      refine g_iconst (v := 1) dL_badAt_12 (by decide) ?_
      refine g_iret dL_badAt_13 rfl ⟨_, _, _, rfl, rfl, ?_⟩
      exact ⟨h0, trivial⟩
    · exact h1.elim
set_option maxRecDepth 100000 in
set_option maxHeartbeats 4000000 in
theorem w_answer (R : gS) (o : Nat → Int64) (S : gS) (x y : Int32) (h0 : ¬ S.1 1 2 < 0) : gCt ML_answer (8, 188) 3 18 [.ref 0, .int x, .int y, .ref 48] (wOf (rtl R (wOut o)) S) (gW2 R fun k => True) := by
  refine gCt.of (ls := [some (.ref 0), some (.int x), some (.int y), some (.ref 48), none]) 1 (by decide) rfl (Nat.le_of_ble_eq_true rfl) ?_
  refine g_aload_n dL_answer_0 rfl rfl ?_
  refine g_iconst (v := 0) dL_answer_1 (by decide) ?_
  refine g_aload_n dL_answer_2 rfl rfl ?_
  refine g_iload_n dL_answer_3 rfl rfl ?_
  refine g_iload_n dL_answer_4 rfl rfl ?_
  refine cV2X (fun _ _ => rfl) dL_answer_5 mlL_29 imX4_answer seX4_answer rfl rfl (c_answer _ _ _ h0) (by decide) (Nat.le_of_ble_eq_true rfl) (Nat.le_of_ble_eq_true rfl) (Nat.le_of_ble_eq_true rfl) ?_ ?_
  · rintro _ S1 ⟨⟨r, rfl⟩, hcl, -⟩
    refine g_i2l dL_answer_8 ?_
    refine p_last dL_answer_9 rfl (vp_in_nI (n := 0) (by decide) (by decide)) (by with_reducible first | exact wA_out _ _ _ _) ?_
    refine g_goto (tgt := 21) dL_answer_10 (by decide) ?_
    refine g_iconst (v := 0) dL_answer_21 (by decide) ?_
    refine g_iret dL_answer_22 rfl ⟨_, _, _, rfl, rfl, ?_⟩
    exact ⟨hcl h0, trivial⟩
  · rintro E S9 ⟨rfl, ⟨rfl, h1⟩ | ⟨rfl, h1⟩⟩
    · refine GTE.caught (hp := []) (h := (0, 10, 13, 21)) (hr := [(0, 10, 17, 23)]) rfl (fun _ h => nomatch h) (by decide) (by decide) clL_21 4 2 (by decide) (Or.inr ⟨rfl, dL_answer_13⟩) ?_
      refine g_iconst (v := 1) dL_answer_15 (by decide) ?_
      refine g_iret dL_answer_16 rfl ⟨_, _, _, rfl, rfl, ?_⟩
      exact ⟨h0, trivial⟩
    · refine GTE.caught (hp := [(0, 10, 13, 21)]) (h := (0, 10, 17, 23)) (hr := []) rfl (fun z hz => by rw [List.mem_singleton.mp hz]; exact Or.inr ⟨by decide, gIS, clL_21, by decide +kernel⟩) (by decide) (by decide) clL_23 4 2 (by decide) (Or.inr ⟨rfl, dL_answer_17⟩) ?_
      refine g_iconst (v := 2) dL_answer_19 (by decide) ?_
      refine g_iret dL_answer_20 rfl ⟨_, _, _, rfl, rfl, ?_⟩
      exact ⟨h0, trivial⟩
set_option maxRecDepth 100000 in
set_option maxHeartbeats 4000000 in
theorem w_drop (R : gS) (o : Nat → Int64) (S : gS) (x : Int32) (h0 : ¬ S.1 1 2 < 0) : gCt ML_drop (8, 187) 2 12 [.ref 0, .int x, .ref 48] (wOf (rtl R (wOut o)) S) (gW2 R fun k => True) := by
  refine gCt.of (ls := [some (.ref 0), some (.int x), some (.ref 48), none]) 1 (by decide) rfl (Nat.le_of_ble_eq_true rfl) ?_
  refine g_aload_n dL_drop_0 rfl rfl ?_
  refine g_iconst (v := 0) dL_drop_1 (by decide) ?_
  refine g_aload_n dL_drop_2 rfl rfl ?_
  refine g_iload_n dL_drop_3 rfl rfl ?_
  refine cV1X (fun _ _ => rfl) dL_drop_4 mlL_33 imX4_drop seX4_drop rfl rfl (c_drop _ _ h0) (by decide) (Nat.le_of_ble_eq_true rfl) (Nat.le_of_ble_eq_true rfl) (Nat.le_of_ble_eq_true rfl) ?_ ?_
  · rintro _ S1 ⟨⟨r, rfl⟩, hcl, -⟩
    refine g_i2l dL_drop_7 ?_
    refine p_last dL_drop_8 rfl (vp_in_nI (n := 0) (by decide) (by decide)) (by with_reducible first | exact wA_out _ _ _ _) ?_
    refine g_goto (tgt := 18) dL_drop_9 (by decide) ?_
    refine g_iconst (v := 0) dL_drop_18 (by decide) ?_
    refine g_iret dL_drop_19 rfl ⟨_, _, _, rfl, rfl, ?_⟩
    exact ⟨hcl h0, trivial⟩
  · rintro E S9 ⟨rfl, ⟨rfl, h1⟩ | ⟨rfl, h1⟩⟩
    · refine GTE.caught (hp := []) (h := (0, 9, 12, 21)) (hr := [(0, 9, 15, 23)]) rfl (fun _ h => nomatch h) (by decide) (by decide) clL_21 3 1 (by decide) (Or.inl ⟨⟨3, by decide⟩, rfl, rfl, dL_drop_12⟩) ?_
      refine g_iconst (v := 1) dL_drop_13 (by decide) ?_
      refine g_iret dL_drop_14 rfl ⟨_, _, _, rfl, rfl, ?_⟩
      exact ⟨h0, trivial⟩
    · refine GTE.caught (hp := [(0, 9, 12, 21)]) (h := (0, 9, 15, 23)) (hr := []) rfl (fun z hz => by rw [List.mem_singleton.mp hz]; exact Or.inr ⟨by decide, gIS, clL_21, by decide +kernel⟩) (by decide) (by decide) clL_23 3 1 (by decide) (Or.inl ⟨⟨3, by decide⟩, rfl, rfl, dL_drop_15⟩) ?_
      refine g_iconst (v := 2) dL_drop_16 (by decide) ?_
      refine g_iret dL_drop_17 rfl ⟨_, _, _, rfl, rfl, ?_⟩
      exact ⟨h0, trivial⟩
set_option maxRecDepth 100000 in
set_option maxHeartbeats 4000000 in
theorem w_chunk (R : gS) (o : Nat → Int64) (S : gS) (x y : Int32) (h0 : ¬ S.1 1 2 < 0) : gCt ML_chunk (8, 125) 3 18 [.ref 0, .int x, .int y, .ref 48] (wOf (rtl R (wOut o)) S) (gW2 R fun k => True) := by
  refine gCt.of (ls := [some (.ref 0), some (.int x), some (.int y), some (.ref 48), none]) 1 (by decide) rfl (Nat.le_of_ble_eq_true rfl) ?_
  refine g_aload_n dL_chunk_0 rfl rfl ?_
  refine g_iconst (v := 0) dL_chunk_1 (by decide) ?_
  refine g_aload_n dL_chunk_2 rfl rfl ?_
  refine g_iload_n dL_chunk_3 rfl rfl ?_
  refine g_iload_n dL_chunk_4 rfl rfl ?_
  refine cV2X (fun _ _ => rfl) dL_chunk_5 mlL_53 imX4_chunk seX4_chunk rfl rfl (c_chunk _ _ _) (by decide) (Nat.le_of_ble_eq_true rfl) (Nat.le_of_ble_eq_true rfl) (Nat.le_of_ble_eq_true rfl) ?_ ?_
  · rintro _ S1 ⟨⟨r, rfl⟩, hcl, -⟩
    refine g_i2l dL_chunk_8 ?_
    refine p_last dL_chunk_9 rfl (vp_in_nI (n := 0) (by decide) (by decide)) (by with_reducible first | exact wA_out _ _ _ _) ?_
    refine g_goto (tgt := 21) dL_chunk_10 (by decide) ?_
    refine g_iconst (v := 0) dL_chunk_21 (by decide) ?_
    refine g_iret dL_chunk_22 rfl ⟨_, _, _, rfl, rfl, ?_⟩
    exact ⟨hcl h0, trivial⟩
  · rintro E S9 ⟨rfl, ⟨rfl, h1⟩ | ⟨rfl, h1⟩⟩
    · refine GTE.caught (hp := []) (h := (0, 10, 13, 21)) (hr := [(0, 10, 17, 23)]) rfl (fun _ h => nomatch h) (by decide) (by decide) clL_21 4 2 (by decide) (Or.inr ⟨rfl, dL_chunk_13⟩) ?_
      refine g_iconst (v := 1) dL_chunk_15 (by decide) ?_
      refine g_iret dL_chunk_16 rfl ⟨_, _, _, rfl, rfl, ?_⟩
      exact ⟨h0, trivial⟩
    · refine GTE.caught (hp := [(0, 10, 13, 21)]) (h := (0, 10, 17, 23)) (hr := []) rfl (fun z hz => by rw [List.mem_singleton.mp hz]; exact Or.inr ⟨by decide, gIS, clL_21, by decide +kernel⟩) (by decide) (by decide) clL_23 4 2 (by decide) (Or.inr ⟨rfl, dL_chunk_17⟩) ?_
      refine g_iconst (v := 2) dL_chunk_19 (by decide) ?_
      refine g_iret dL_chunk_20 rfl ⟨_, _, _, rfl, rfl, ?_⟩
      exact ⟨h0, trivial⟩
set_option maxRecDepth 100000 in
set_option maxHeartbeats 4000000 in
theorem w_usable (R : gS) (o : Nat → Int64) (S : gS) (x : Int32) (h0 : ¬ S.1 1 2 < 0) : gCt ML_usable (8, 124) 2 12 [.ref 0, .int x, .ref 48] (wOf (rtl R (wOut o)) S) (gW2 R fun k => True) := by
  refine gCt.of (ls := [some (.ref 0), some (.int x), some (.ref 48), none]) 1 (by decide) rfl (Nat.le_of_ble_eq_true rfl) ?_
  refine g_aload_n dL_usable_0 rfl rfl ?_
  refine g_iconst (v := 0) dL_usable_1 (by decide) ?_
  refine g_aload_n dL_usable_2 rfl rfl ?_
  refine g_iload_n dL_usable_3 rfl rfl ?_
  refine cV1X (fun _ _ => rfl) dL_usable_4 mlL_66 imX4_usable seX4_usable rfl rfl (c_usable _ _) (by decide) (Nat.le_of_ble_eq_true rfl) (Nat.le_of_ble_eq_true rfl) (Nat.le_of_ble_eq_true rfl) ?_ ?_
  · rintro _ S1 ⟨⟨r, rfl, -⟩, hcl, -⟩
    refine g_if_eq (tgt := 14) dL_usable_7 (by decide) (fun c7 => ?_) (fun c7 => ?_)
    · refine g_lconst (v := 0) dL_usable_14 (by decide) ?_
      refine p_last dL_usable_15 rfl (vp_in_nI (n := 0) (by decide) (by decide)) (by with_reducible first | exact wA_out _ _ _ _) ?_
      refine g_goto (tgt := 25) dL_usable_16 (by decide) ?_
      refine g_iconst (v := 0) dL_usable_25 (by decide) ?_
      refine g_iret dL_usable_26 rfl ⟨_, _, _, rfl, rfl, ?_⟩
      exact ⟨hcl h0, trivial⟩
    · refine g_lconst (v := 1) dL_usable_10 (by decide) ?_
      refine g_goto (tgt := 15) dL_usable_11 (by decide) ?_
      refine p_last dL_usable_15 rfl (vp_in_nI (n := 0) (by decide) (by decide)) (by with_reducible first | exact wA_out _ _ _ _) ?_
      refine g_goto (tgt := 25) dL_usable_16 (by decide) ?_
      refine g_iconst (v := 0) dL_usable_25 (by decide) ?_
      refine g_iret dL_usable_26 rfl ⟨_, _, _, rfl, rfl, ?_⟩
      exact ⟨hcl h0, trivial⟩
  · rintro E S9 ⟨rfl, ⟨rfl, h1⟩ | ⟨rfl, h1⟩⟩
    · refine GTE.caught (hp := []) (h := (0, 16, 19, 21)) (hr := [(0, 16, 22, 23)]) rfl (fun _ h => nomatch h) (by decide) (by decide) clL_21 3 1 (by decide) (Or.inl ⟨⟨3, by decide⟩, rfl, rfl, dL_usable_19⟩) ?_
      refine g_iconst (v := 1) dL_usable_20 (by decide) ?_
      refine g_iret dL_usable_21 rfl ⟨_, _, _, rfl, rfl, ?_⟩
      exact ⟨h0, trivial⟩
    · refine GTE.caught (hp := [(0, 16, 19, 21)]) (h := (0, 16, 22, 23)) (hr := []) rfl (fun z hz => by rw [List.mem_singleton.mp hz]; exact Or.inr ⟨by decide, gIS, clL_21, by decide +kernel⟩) (by decide) (by decide) clL_23 3 1 (by decide) (Or.inl ⟨⟨3, by decide⟩, rfl, rfl, dL_usable_22⟩) ?_
      refine g_iconst (v := 2) dL_usable_23 (by decide) ?_
      refine g_iret dL_usable_24 rfl ⟨_, _, _, rfl, rfl, ?_⟩
      exact ⟨h0, trivial⟩
set_option maxRecDepth 100000 in
set_option maxHeartbeats 4000000 in
theorem w_mask (R : gS) (o : Nat → Int64) (S : gS) (x : Int32) (h0 : ¬ S.1 1 2 < 0) : gCt ML_mask (8, 124) 2 12 [.ref 0, .int x, .ref 48] (wOf (rtl R (wOut o)) S) (gW2 R fun k => True) := by
  refine gCt.of (ls := [some (.ref 0), some (.int x), some (.ref 48), none]) 1 (by decide) rfl (Nat.le_of_ble_eq_true rfl) ?_
  refine g_aload_n dL_mask_0 rfl rfl ?_
  refine g_iconst (v := 0) dL_mask_1 (by decide) ?_
  refine g_aload_n dL_mask_2 rfl rfl ?_
  refine g_iload_n dL_mask_3 rfl rfl ?_
  refine cV1X (fun _ _ => rfl) dL_mask_4 mlL_70 imX4_mask seX4_mask rfl rfl (c_mask _ _) (by decide) (Nat.le_of_ble_eq_true rfl) (Nat.le_of_ble_eq_true rfl) (Nat.le_of_ble_eq_true rfl) ?_ ?_
  · rintro _ S1 ⟨⟨r, rfl⟩, hcl, -⟩
    refine p_last dL_mask_7 rfl (vp_in_nI (n := 0) (by decide) (by decide)) (by with_reducible first | exact wA_out _ _ _ _) ?_
    refine g_goto (tgt := 17) dL_mask_8 (by decide) ?_
    refine g_iconst (v := 0) dL_mask_17 (by decide) ?_
    refine g_iret dL_mask_18 rfl ⟨_, _, _, rfl, rfl, ?_⟩
    exact ⟨hcl h0, trivial⟩
  · rintro E S9 ⟨rfl, ⟨rfl, h1⟩ | ⟨rfl, h1⟩⟩
    · refine GTE.caught (hp := []) (h := (0, 8, 11, 21)) (hr := [(0, 8, 14, 23)]) rfl (fun _ h => nomatch h) (by decide) (by decide) clL_21 3 1 (by decide) (Or.inl ⟨⟨3, by decide⟩, rfl, rfl, dL_mask_11⟩) ?_
      refine g_iconst (v := 1) dL_mask_12 (by decide) ?_
      refine g_iret dL_mask_13 rfl ⟨_, _, _, rfl, rfl, ?_⟩
      exact ⟨h0, trivial⟩
    · refine GTE.caught (hp := [(0, 8, 11, 21)]) (h := (0, 8, 14, 23)) (hr := []) rfl (fun z hz => by rw [List.mem_singleton.mp hz]; exact Or.inr ⟨by decide, gIS, clL_21, by decide +kernel⟩) (by decide) (by decide) clL_23 3 1 (by decide) (Or.inl ⟨⟨3, by decide⟩, rfl, rfl, dL_mask_14⟩) ?_
      refine g_iconst (v := 2) dL_mask_15 (by decide) ?_
      refine g_iret dL_mask_16 rfl ⟨_, _, _, rfl, rfl, ?_⟩
      exact ⟨h0, trivial⟩
set_option maxRecDepth 100000 in
set_option maxHeartbeats 4000000 in
theorem w_poke (R : gS) (o : Nat → Int64) (S : gS) (x y : Int32) (h0 : ¬ S.1 1 2 < 0) : gCt ML_poke (8, 126) 1 6 [.ref 0, .int x, .int y, .ref 48] (wOf (rtl R (wOut o)) S) (gW2 R fun k => True) := by
  refine gCt.of (ls := [some (.ref 0), some (.int x), some (.int y), some (.ref 48), none]) 1 (by decide) rfl (Nat.le_of_ble_eq_true rfl) ?_
  refine g_aload_n dL_poke_0 rfl rfl ?_
  refine g_iconst (v := 0) dL_poke_1 (by decide) ?_
  refine g_aload_n dL_poke_2 rfl rfl ?_
  refine g_iload_n dL_poke_3 rfl rfl ?_
  refine g_iload_n dL_poke_4 rfl rfl ?_
  refine cV2X (fun _ _ => rfl) dL_poke_5 mlL_40 imX4_poke seX4_poke rfl rfl (c_poke _ _ _) (by decide) (Nat.le_of_ble_eq_true rfl) (Nat.le_of_ble_eq_true rfl) (Nat.le_of_ble_eq_true rfl) ?_ ?_
  · rintro _ S1 ⟨rfl, hcl, -, -⟩
    refine g_i2l dL_poke_8 ?_
    refine p_last dL_poke_9 rfl (vp_in_nI (n := 0) (by decide) (by decide)) (by with_reducible first | exact wA_out _ _ _ _) ?_
    refine g_goto (tgt := 17) dL_poke_10 (by decide) ?_
    refine g_iconst (v := 0) dL_poke_17 (by decide) ?_
    refine g_iret dL_poke_18 rfl ⟨_, _, _, rfl, rfl, ?_⟩
    exact ⟨hcl h0, trivial⟩
  · rintro E S9 ⟨rfl, rfl, h1⟩
    refine GTE.caught (hp := []) (h := (0, 10, 13, 23)) (hr := []) rfl (fun _ h => nomatch h) (by decide) (by decide) clL_23 4 2 (by decide) (Or.inr ⟨rfl, dL_poke_13⟩) ?_
    refine g_iconst (v := 1) dL_poke_15 (by decide) ?_
    refine g_iret dL_poke_16 rfl ⟨_, _, _, rfl, rfl, ?_⟩
    exact ⟨h0, trivial⟩
set_option maxRecDepth 100000 in
set_option maxHeartbeats 4000000 in
theorem w_byteAt (R : gS) (o : Nat → Int64) (S : gS) (x : Int32) (h0 : ¬ S.1 1 2 < 0) : gCt ML_byteAt (8, 124) 1 6 [.ref 0, .int x, .ref 48] (wOf (rtl R (wOut o)) S) (gW2 R fun k => True) := by
  refine gCt.of (ls := [some (.ref 0), some (.int x), some (.ref 48), none]) 1 (by decide) rfl (Nat.le_of_ble_eq_true rfl) ?_
  refine g_aload_n dL_byteAt_0 rfl rfl ?_
  refine g_iconst (v := 0) dL_byteAt_1 (by decide) ?_
  refine g_aload_n dL_byteAt_2 rfl rfl ?_
  refine g_iload_n dL_byteAt_3 rfl rfl ?_
  refine cV1X (fun _ _ => rfl) dL_byteAt_4 mlL_43 imX4_byteAt seX4_byteAt rfl rfl (c_byteAt _ _) (by decide) (Nat.le_of_ble_eq_true rfl) (Nat.le_of_ble_eq_true rfl) (Nat.le_of_ble_eq_true rfl) ?_ ?_
  · rintro _ S1 ⟨rfl, hcl, -, -⟩
    refine g_i2l dL_byteAt_7 ?_
    refine p_last dL_byteAt_8 rfl (vp_in_nI (n := 0) (by decide) (by decide)) (by with_reducible first | exact wA_out _ _ _ _) ?_
    refine g_goto (tgt := 15) dL_byteAt_9 (by decide) ?_
    refine g_iconst (v := 0) dL_byteAt_15 (by decide) ?_
    refine g_iret dL_byteAt_16 rfl ⟨_, _, _, rfl, rfl, ?_⟩
    exact ⟨hcl h0, trivial⟩
  · rintro E S9 ⟨rfl, rfl, h1⟩
    refine GTE.caught (hp := []) (h := (0, 9, 12, 23)) (hr := []) rfl (fun _ h => nomatch h) (by decide) (by decide) clL_23 3 1 (by decide) (Or.inl ⟨⟨3, by decide⟩, rfl, rfl, dL_byteAt_12⟩) ?_
    refine g_iconst (v := 1) dL_byteAt_13 (by decide) ?_
    refine g_iret dL_byteAt_14 rfl ⟨_, _, _, rfl, rfl, ?_⟩
    exact ⟨h0, trivial⟩
set_option maxRecDepth 100000 in
set_option maxHeartbeats 4000000 in
theorem w_has (R : gS) (o : Nat → Int64) (S : gS) (x y z : Int32) (h0 : ¬ S.1 1 2 < 0) : gCt ML_has (9, 148) 4 24 [.ref 0, .int x, .int y, .int z, .ref 48] (wOf (rtl R (wOut o)) S) (gW2 R fun k => True) := by
  refine gCt.of (ls := [some (.ref 0), some (.int x), some (.int y), some (.int z), some (.ref 48), none]) 1 (by decide) rfl (Nat.le_of_ble_eq_true rfl) ?_
  refine g_aload dL_has_0 rfl ?_
  refine g_iconst (v := 0) dL_has_2 (by decide) ?_
  refine g_aload_n dL_has_3 rfl rfl ?_
  refine g_iload_n dL_has_4 rfl rfl ?_
  refine g_iload_n dL_has_5 rfl rfl ?_
  refine g_iload_n dL_has_6 rfl rfl ?_
  refine cV3X (fun _ _ => rfl) dL_has_7 mlL_49 imX4_has seX4_has rfl rfl (c_has _ _ _ _) (by decide) (Nat.le_of_ble_eq_true rfl) (Nat.le_of_ble_eq_true rfl) (Nat.le_of_ble_eq_true rfl) ?_ ?_
  · rintro _ S1 ⟨⟨r, rfl, -, -⟩, hcl⟩
    refine g_if_eq (tgt := 17) dL_has_10 (by decide) (fun c10 => ?_) (fun c10 => ?_)
    · refine g_lconst (v := 0) dL_has_17 (by decide) ?_
      refine p_last dL_has_18 rfl (vp_in_nI (n := 0) (by decide) (by decide)) (by with_reducible first | exact wA_out _ _ _ _) ?_
      refine g_goto (tgt := 30) dL_has_19 (by decide) ?_
      refine g_iconst (v := 0) dL_has_30 (by decide) ?_
      refine g_iret dL_has_31 rfl ⟨_, _, _, rfl, rfl, ?_⟩
      exact ⟨hcl h0, trivial⟩
    · refine g_lconst (v := 1) dL_has_13 (by decide) ?_
      refine g_goto (tgt := 18) dL_has_14 (by decide) ?_
      refine p_last dL_has_18 rfl (vp_in_nI (n := 0) (by decide) (by decide)) (by with_reducible first | exact wA_out _ _ _ _) ?_
      refine g_goto (tgt := 30) dL_has_19 (by decide) ?_
      refine g_iconst (v := 0) dL_has_30 (by decide) ?_
      refine g_iret dL_has_31 rfl ⟨_, _, _, rfl, rfl, ?_⟩
      exact ⟨hcl h0, trivial⟩
  · rintro E S9 ⟨rfl, ⟨rfl, h1⟩ | ⟨rfl, h1⟩⟩
    · refine GTE.caught (hp := []) (h := (0, 19, 22, 21)) (hr := [(0, 19, 26, 23)]) rfl (fun _ h => nomatch h) (by decide) (by decide) clL_21 5 2 (by decide) (Or.inr ⟨rfl, dL_has_22⟩) ?_
      refine g_iconst (v := 1) dL_has_24 (by decide) ?_
      refine g_iret dL_has_25 rfl ⟨_, _, _, rfl, rfl, ?_⟩
      exact ⟨h0, trivial⟩
    · refine GTE.caught (hp := [(0, 19, 22, 21)]) (h := (0, 19, 26, 23)) (hr := []) rfl (fun z hz => by rw [List.mem_singleton.mp hz]; exact Or.inr ⟨by decide, gIS, clL_21, by decide +kernel⟩) (by decide) (by decide) clL_23 5 2 (by decide) (Or.inr ⟨rfl, dL_has_26⟩) ?_
      refine g_iconst (v := 2) dL_has_28 (by decide) ?_
      refine g_iret dL_has_29 rfl ⟨_, _, _, rfl, rfl, ?_⟩
      exact ⟨h0, trivial⟩
set_option maxRecDepth 100000 in
set_option maxHeartbeats 4000000 in
theorem w_far (R : gS) (o : Nat → Int64) (S : gS) (x y z : Int32) (h0 : ¬ S.1 1 2 < 0) : gCt ML_far (9, 153) 4 24 [.ref 0, .int x, .int y, .int z, .ref 48] (wOf (rtl R (wOut o)) S) (gW2 R fun k => True) := by
  refine gCt.of (ls := [some (.ref 0), some (.int x), some (.int y), some (.int z), some (.ref 48), none]) 1 (by decide) rfl (Nat.le_of_ble_eq_true rfl) ?_
  refine g_aload dL_far_0 rfl ?_
  refine g_iconst (v := 0) dL_far_2 (by decide) ?_
  refine g_aload_n dL_far_3 rfl rfl ?_
  refine g_iload_n dL_far_4 rfl rfl ?_
  refine g_iload_n dL_far_5 rfl rfl ?_
  refine g_iload_n dL_far_6 rfl rfl ?_
  refine cV3X (fun _ _ => rfl) dL_far_7 mlL_62 imX4_far seX4_far rfl rfl (c_far _ _ _ _) (by decide) (Nat.le_of_ble_eq_true rfl) (Nat.le_of_ble_eq_true rfl) (Nat.le_of_ble_eq_true rfl) ?_ ?_
  · rintro _ S1 ⟨⟨r, rfl, -⟩, hcl⟩
    refine g_i2l dL_far_10 ?_
    refine p_last dL_far_11 rfl (vp_in_nI (n := 0) (by decide) (by decide)) (by with_reducible first | exact wA_out _ _ _ _) ?_
    refine g_goto (tgt := 23) dL_far_12 (by decide) ?_
    refine g_iconst (v := 0) dL_far_23 (by decide) ?_
    refine g_iret dL_far_24 rfl ⟨_, _, _, rfl, rfl, ?_⟩
    exact ⟨hcl h0, trivial⟩
  · rintro E S9 ⟨rfl, ⟨rfl, h1⟩ | ⟨rfl, h1⟩⟩
    · refine GTE.caught (hp := []) (h := (0, 12, 15, 21)) (hr := [(0, 12, 19, 23)]) rfl (fun _ h => nomatch h) (by decide) (by decide) clL_21 5 2 (by decide) (Or.inr ⟨rfl, dL_far_15⟩) ?_
      refine g_iconst (v := 1) dL_far_17 (by decide) ?_
      refine g_iret dL_far_18 rfl ⟨_, _, _, rfl, rfl, ?_⟩
      exact ⟨h0, trivial⟩
    · refine GTE.caught (hp := [(0, 12, 15, 21)]) (h := (0, 12, 19, 23)) (hr := []) rfl (fun z hz => by rw [List.mem_singleton.mp hz]; exact Or.inr ⟨by decide, gIS, clL_21, by decide +kernel⟩) (by decide) (by decide) clL_23 5 2 (by decide) (Or.inr ⟨rfl, dL_far_19⟩) ?_
      refine g_iconst (v := 2) dL_far_21 (by decide) ?_
      refine g_iret dL_far_22 rfl ⟨_, _, _, rfl, rfl, ?_⟩
      exact ⟨h0, trivial⟩
set_option maxRecDepth 100000 in
set_option maxHeartbeats 4000000 in
theorem w_named (R : gS) (o : Nat → Int64) (S : gS) (x : Int32) (h0 : ¬ S.1 1 2 < 0) : gCt ML_named (8, 123) 2 12 [.ref 0, .int x, .ref 48] (wOf (rtl R (wOut o)) S) (gW2 R fun k => True) := by
  refine gCt.of (ls := [some (.ref 0), some (.int x), some (.ref 48), none]) 1 (by decide) rfl (Nat.le_of_ble_eq_true rfl) ?_
  refine g_aload_n dL_named_0 rfl rfl ?_
  refine g_iconst (v := 0) dL_named_1 (by decide) ?_
  refine g_aload_n dL_named_2 rfl rfl ?_
  refine g_iload_n dL_named_3 rfl rfl ?_
  refine cV1X (fun _ _ => rfl) dL_named_4 mlL_56 imX4_named seX4_named rfl rfl (c_named _ _) (by decide) (Nat.le_of_ble_eq_true rfl) (Nat.le_of_ble_eq_true rfl) (Nat.le_of_ble_eq_true rfl) ?_ ?_
  · rintro _ S1 ⟨⟨r, rfl, -⟩, hcl⟩
    refine g_i2l dL_named_7 ?_
    refine p_last dL_named_8 rfl (vp_in_nI (n := 0) (by decide) (by decide)) (by with_reducible first | exact wA_out _ _ _ _) ?_
    refine g_goto (tgt := 18) dL_named_9 (by decide) ?_
    refine g_iconst (v := 0) dL_named_18 (by decide) ?_
    refine g_iret dL_named_19 rfl ⟨_, _, _, rfl, rfl, ?_⟩
    exact ⟨hcl h0, trivial⟩
  · rintro E S9 ⟨rfl, ⟨rfl, h1⟩ | ⟨rfl, h1⟩⟩
    · refine GTE.caught (hp := []) (h := (0, 9, 12, 21)) (hr := [(0, 9, 15, 23)]) rfl (fun _ h => nomatch h) (by decide) (by decide) clL_21 3 1 (by decide) (Or.inl ⟨⟨3, by decide⟩, rfl, rfl, dL_named_12⟩) ?_
      refine g_iconst (v := 1) dL_named_13 (by decide) ?_
      refine g_iret dL_named_14 rfl ⟨_, _, _, rfl, rfl, ?_⟩
      exact ⟨h0, trivial⟩
    · refine GTE.caught (hp := [(0, 9, 12, 21)]) (h := (0, 9, 15, 23)) (hr := []) rfl (fun z hz => by rw [List.mem_singleton.mp hz]; exact Or.inr ⟨by decide, gIS, clL_21, by decide +kernel⟩) (by decide) (by decide) clL_23 3 1 (by decide) (Or.inl ⟨⟨3, by decide⟩, rfl, rfl, dL_named_15⟩) ?_
      refine g_iconst (v := 2) dL_named_16 (by decide) ?_
      refine g_iret dL_named_17 rfl ⟨_, _, _, rfl, rfl, ?_⟩
      exact ⟨h0, trivial⟩
set_option maxRecDepth 100000 in
set_option maxHeartbeats 4000000 in
theorem w_differ (R : gS) (o : Nat → Int64) (S : gS) (x y : Int32) (h0 : ¬ S.1 1 2 < 0) : gCt ML_differ (9, 149) 3 18 [.ref 0, .int x, .int y, .ref 48] (wOf (rtl R (wOut o)) S) (gW2 R fun k => True) := by
  refine gCt.of (ls := [some (.ref 0), some (.int x), some (.int y), some (.ref 48), none]) 1 (by decide) rfl (Nat.le_of_ble_eq_true rfl) ?_
  refine g_aload_n dL_differ_0 rfl rfl ?_
  refine g_iconst (v := 0) dL_differ_1 (by decide) ?_
  refine g_aload_n dL_differ_2 rfl rfl ?_
  refine g_iload_n dL_differ_3 rfl rfl ?_
  refine g_iload_n dL_differ_4 rfl rfl ?_
  refine cV2X (fun _ _ => rfl) dL_differ_5 mlL_59 imX4_differ seX4_differ rfl rfl (c_differ _ _ _) (by decide) (Nat.le_of_ble_eq_true rfl) (Nat.le_of_ble_eq_true rfl) (Nat.le_of_ble_eq_true rfl) ?_ ?_
  · rintro _ S1 ⟨⟨r, rfl, -⟩, hcl⟩
    refine g_i2l dL_differ_8 ?_
    refine p_last dL_differ_9 rfl (vp_in_nI (n := 0) (by decide) (by decide)) (by with_reducible first | exact wA_out _ _ _ _) ?_
    refine g_goto (tgt := 21) dL_differ_10 (by decide) ?_
    refine g_iconst (v := 0) dL_differ_21 (by decide) ?_
    refine g_iret dL_differ_22 rfl ⟨_, _, _, rfl, rfl, ?_⟩
    exact ⟨hcl h0, trivial⟩
  · rintro E S9 ⟨rfl, ⟨rfl, h1⟩ | ⟨rfl, h1⟩⟩
    · refine GTE.caught (hp := []) (h := (0, 10, 13, 21)) (hr := [(0, 10, 17, 23)]) rfl (fun _ h => nomatch h) (by decide) (by decide) clL_21 4 2 (by decide) (Or.inr ⟨rfl, dL_differ_13⟩) ?_
      refine g_iconst (v := 1) dL_differ_15 (by decide) ?_
      refine g_iret dL_differ_16 rfl ⟨_, _, _, rfl, rfl, ?_⟩
      exact ⟨h0, trivial⟩
    · refine GTE.caught (hp := [(0, 10, 13, 21)]) (h := (0, 10, 17, 23)) (hr := []) rfl (fun z hz => by rw [List.mem_singleton.mp hz]; exact Or.inr ⟨by decide, gIS, clL_21, by decide +kernel⟩) (by decide) (by decide) clL_23 4 2 (by decide) (Or.inr ⟨rfl, dL_differ_17⟩) ?_
      refine g_iconst (v := 2) dL_differ_19 (by decide) ?_
      refine g_iret dL_differ_20 rfl ⟨_, _, _, rfl, rfl, ?_⟩
      exact ⟨h0, trivial⟩
set_option maxRecDepth 100000 in
set_option maxHeartbeats 4000000 in
theorem w_told (R : gS) (o : Nat → Int64) (S : gS) (x : Int32) (h0 : ¬ S.1 1 2 < 0) : gCt ML_told (8, 123) 2 12 [.ref 0, .int x, .ref 48] (wOf (rtl R (wOut o)) S) (gW2 R fun k => True) := by
  refine gCt.of (ls := [some (.ref 0), some (.int x), some (.ref 48), none]) 1 (by decide) rfl (Nat.le_of_ble_eq_true rfl) ?_
  refine g_aload_n dL_told_0 rfl rfl ?_
  refine g_iconst (v := 0) dL_told_1 (by decide) ?_
  refine g_aload_n dL_told_2 rfl rfl ?_
  refine g_iload_n dL_told_3 rfl rfl ?_
  refine cV1X (fun _ _ => rfl) dL_told_4 mlL_74 imX4_told seX4_told rfl rfl (c_told _ _) (by decide) (Nat.le_of_ble_eq_true rfl) (Nat.le_of_ble_eq_true rfl) (Nat.le_of_ble_eq_true rfl) ?_ ?_
  · rintro _ S1 ⟨⟨r, rfl, -⟩, hcl⟩
    refine g_i2l dL_told_7 ?_
    refine p_last dL_told_8 rfl (vp_in_nI (n := 0) (by decide) (by decide)) (by with_reducible first | exact wA_out _ _ _ _) ?_
    refine g_goto (tgt := 18) dL_told_9 (by decide) ?_
    refine g_iconst (v := 0) dL_told_18 (by decide) ?_
    refine g_iret dL_told_19 rfl ⟨_, _, _, rfl, rfl, ?_⟩
    exact ⟨hcl h0, trivial⟩
  · rintro E S9 ⟨rfl, ⟨rfl, h1⟩ | ⟨rfl, h1⟩⟩
    · refine GTE.caught (hp := []) (h := (0, 9, 12, 21)) (hr := [(0, 9, 15, 23)]) rfl (fun _ h => nomatch h) (by decide) (by decide) clL_21 3 1 (by decide) (Or.inl ⟨⟨3, by decide⟩, rfl, rfl, dL_told_12⟩) ?_
      refine g_iconst (v := 1) dL_told_13 (by decide) ?_
      refine g_iret dL_told_14 rfl ⟨_, _, _, rfl, rfl, ?_⟩
      exact ⟨h0, trivial⟩
    · refine GTE.caught (hp := [(0, 9, 12, 21)]) (h := (0, 9, 15, 23)) (hr := []) rfl (fun z hz => by rw [List.mem_singleton.mp hz]; exact Or.inr ⟨by decide, gIS, clL_21, by decide +kernel⟩) (by decide) (by decide) clL_23 3 1 (by decide) (Or.inl ⟨⟨3, by decide⟩, rfl, rfl, dL_told_15⟩) ?_
      refine g_iconst (v := 2) dL_told_16 (by decide) ?_
      refine g_iret dL_told_17 rfl ⟨_, _, _, rfl, rfl, ?_⟩
      exact ⟨h0, trivial⟩
