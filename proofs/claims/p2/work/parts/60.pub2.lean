section
variable {τ : gW}
set_option maxRecDepth 100000 in
set_option maxHeartbeats 4000000 in
theorem l_wer2 (S : gS) (nu : Int32) (h0 : ¬ S.1 1 2 < 0) (hf : Fr S → nu = 0) : ∀ (m i k n : Nat) (S0 : gS), i + m = 8 → Cl S S0 → G MX4_version (7, 188) 101 [some (.ref 0), some (.int nu), some (.int (nI i))] [] (wOf τ S0) k n (gX (wOf τ) (fun v S' => (∃ r : Int32, v = .int r ∧ (Fr S → r = 0)) ∧ Cl S S') (fun E S' => S = S' ∧ ((E = gIS ∧ ¬ Fr S) ∨ (E = gIO ∧ False)))) := by
  intro m
  induction m with
  | zero =>
    intro i k n S0 hi hS
    obtain rfl : i = 8 := by omega
    refine g_iload_n dX4_version_101 rfl rfl ?_
    refine g_bipush (v := 8) dX4_version_102 (by decide) ?_
    refine g_icmp_ge (tgt := 130) dX4_version_104 (by decide) (fun c104 => ?_) (fun c104 => ?_)
    · refine g_aload_n dX4_version_130 rfl rfl ?_
      refine cV00 (fun _ _ => rfl) dX4_version_131 mlX4_76 imX4_endRow seX4_endRow rfl rfl (c_endRow _ (hS h0)) (by decide) (Nat.le_of_ble_eq_true rfl) (Nat.le_of_ble_eq_true rfl) (Nat.le_of_ble_eq_true rfl) ?_
      rintro S2 ⟨j1, j2⟩
      refine g_iload_n dX4_version_134 rfl rfl ?_
      refine g_iret dX4_version_135 rfl (Or.inl ⟨_, _, rfl, rfl, ?_⟩)
      exact ⟨⟨_, rfl, hf⟩, hS.tr j1⟩
    · exact absurd (show (8 : Int32) ≤ nI 8 by decide) c104
  | succ m ih =>
    intro i k n S0 hi hS
    refine g_iload_n dX4_version_101 rfl rfl ?_
    refine g_bipush (v := 8) dX4_version_102 (by decide) ?_
    refine g_icmp_ge (tgt := 130) dX4_version_104 (by decide) (fun c104 => ?_) (fun c104 => ?_)
    · exact absurd c104 (nI_ge (b := 8) (by omega) (by decide))
    · refine g_aload_n dX4_version_107 rfl rfl ?_
      refine g_get dX4_version_108 flX4_12 rfl rfl ?_
      refine g_aload_n dX4_version_111 rfl rfl ?_
      refine g_get dX4_version_112 flX4_29 rfl rfl ?_
      refine g_iload_n dX4_version_115 rfl rfl ?_
      refine cV1N (fun _ _ => rfl) dX4_version_116 mlX4_93 imX3_numberOf seX3_numberOf rfl rfl (c_numberOf _ _) (by decide) (Nat.le_of_ble_eq_true rfl) (Nat.le_of_ble_eq_true rfl) (Nat.le_of_ble_eq_true rfl) ?_
      rintro _ _ ⟨⟨no, rfl, -⟩, rfl⟩
      refine g_i2l dX4_version_119 ?_
      refine g_iconst (v := 2) dX4_version_120 (by decide) ?_
      refine cV20 (fun _ _ => rfl) dX4_version_121 mlX4_72 imX1_write seX1_write rfl rfl (c_write _ _ 2 (by decide) (hS h0)) (by decide) (Nat.le_of_ble_eq_true rfl) (Nat.le_of_ble_eq_true rfl) (Nat.le_of_ble_eq_true rfl) ?_
      rintro _ rfl
      refine g_iinc dX4_version_124 rfl (by decide) (by first | exact gi_1 _ | exact gi_p _) ?_
      refine g_goto (tgt := 101) dX4_version_127 (by decide) ?_
      exact ih (i + 1) _ _ _ (by omega) (hS.tr (dwrs_Cl _ _ (hS h0)))
set_option maxRecDepth 100000 in
set_option maxHeartbeats 4000000 in
theorem l_wer1 (S : gS) (h0 : ¬ S.1 1 2 < 0) : ∀ (m i k n : Nat) (S0 : gS) (l2 : Option Value), i + m = 8 → (Cl S S0 ∧ S0.1 4 8 = S.1 4 8) → G MX4_version (7, 188) 49 [some (.ref 0), some (.int (nI i)), l2] [] (wOf τ S0) k n (gX (wOf τ) (fun v S' => (∃ r : Int32, v = .int r ∧ (Fr S → r = 0)) ∧ Cl S S') (fun E S' => S = S' ∧ ((E = gIS ∧ ¬ Fr S) ∨ (E = gIO ∧ False)))) := by
  intro m
  induction m with
  | zero =>
    intro i k n S0 l2 hi hS
    obtain rfl : i = 8 := by omega
    refine g_iload_n dX4_version_49 rfl rfl ?_
    refine g_bipush (v := 8) dX4_version_50 (by decide) ?_
    refine g_icmp_ge (tgt := 85) dX4_version_52 (by decide) (fun c52 => ?_) (fun c52 => ?_)
    · refine g_aload_n dX4_version_85 rfl rfl ?_
      refine g_get dX4_version_86 flX4_19 rfl rfl ?_
      refine g_get dX4_version_89 flX4_79 rfl rfl ?_
      refine g_istore_n dX4_version_92 rfl (by decide) ?_
      refine g_aload_n dX4_version_93 rfl rfl ?_
      refine g_iconst (v := 3) dX4_version_94 (by decide) ?_
      refine g_iload_n dX4_version_95 rfl rfl ?_
      refine cV20 (fun _ _ => rfl) dX4_version_96 mlX4_68 imX4_startRow seX4_startRow rfl rfl (c_startRow _ _ _ (hS.1 h0)) (by decide) (Nat.le_of_ble_eq_true rfl) (Nat.le_of_ble_eq_true rfl) (Nat.le_of_ble_eq_true rfl) ?_
      rintro S1 ⟨k1, k2, k3, k4, k5⟩
      refine g_iconst (v := 0) dX4_version_99 (by decide) ?_
      refine g_istore_n dX4_version_100 rfl (by decide) ?_
      exact l_wer2 S _ h0 (fun f => by rw [hS.2]; exact f.2.1.2.1) 8 0 _ _ _ rfl (hS.1.tr k1)
    · exact absurd (show (8 : Int32) ≤ nI 8 by decide) c52
  | succ m ih =>
    intro i k n S0 l2 hi hS
    refine g_iload_n dX4_version_49 rfl rfl ?_
    refine g_bipush (v := 8) dX4_version_50 (by decide) ?_
    refine g_icmp_ge (tgt := 85) dX4_version_52 (by decide) (fun c52 => ?_) (fun c52 => ?_)
    · exact absurd c52 (nI_ge (b := 8) (by omega) (by decide))
    · refine g_aload_n dX4_version_55 rfl rfl ?_
      refine g_get dX4_version_56 flX4_29 rfl rfl ?_
      refine g_iload_n dX4_version_59 rfl rfl ?_
      refine cV1N (fun _ _ => rfl) dX4_version_60 mlX4_90 imX3_isNew seX3_isNew rfl rfl (c_isNew _ _) (by decide) (Nat.le_of_ble_eq_true rfl) (Nat.le_of_ble_eq_true rfl) (Nat.le_of_ble_eq_true rfl) ?_
      rintro _ _ ⟨⟨nw, rfl, -⟩, rfl⟩
      refine g_if_eq (tgt := 79) dX4_version_63 (by decide) (fun c63 => ?_) (fun c63 => ?_)
      · refine g_iinc dX4_version_79 rfl (by decide) (by first | exact gi_1 _ | exact gi_p _) ?_
        refine g_goto (tgt := 49) dX4_version_82 (by decide) ?_
        first | exact ih (i + 1) _ _ _ _ (by omega) hS | exact ih (i + 1) _ _ _ _ (by omega) ⟨hS.1.tr j1, j2.trans hS.2⟩
      · refine g_aload_n dX4_version_66 rfl rfl ?_
        refine g_iload_n dX4_version_67 rfl rfl ?_
        refine g_aload_n dX4_version_68 rfl rfl ?_
        refine g_get dX4_version_69 flX4_29 rfl rfl ?_
        refine g_iload_n dX4_version_72 rfl rfl ?_
        refine cV1N (fun _ _ => rfl) dX4_version_73 mlX4_93 imX3_numberOf seX3_numberOf rfl rfl (c_numberOf _ _) (by decide) (Nat.le_of_ble_eq_true rfl) (Nat.le_of_ble_eq_true rfl) (Nat.le_of_ble_eq_true rfl) ?_
        rintro _ _ ⟨⟨no, rfl, -⟩, rfl⟩
        refine cV20 (fun _ _ => rfl) dX4_version_76 mlX4_97 imX4_writeChunk seX4_writeChunk rfl rfl (c_writeChunk _ _ _ (hS.1 h0)) (by decide) (Nat.le_of_ble_eq_true rfl) (Nat.le_of_ble_eq_true rfl) (Nat.le_of_ble_eq_true rfl) ?_
        rintro S2 ⟨j1, j2⟩
        refine g_iinc dX4_version_79 rfl (by decide) (by first | exact gi_1 _ | exact gi_p _) ?_
        refine g_goto (tgt := 49) dX4_version_82 (by decide) ?_
        first | exact ih (i + 1) _ _ _ _ (by omega) hS | exact ih (i + 1) _ _ _ _ (by omega) ⟨hS.1.tr j1, j2.trans hS.2⟩
set_option maxRecDepth 100000 in
set_option maxHeartbeats 4000000 in
theorem d_version (S : gS) (h0 : ¬ S.1 1 2 < 0) : gCt MX4_version (7, 188) 1 6 [.ref 0] (wOf τ S) (gX (wOf τ) (fun v S' => (∃ r : Int32, v = .int r ∧ (Fr S → r = 0)) ∧ Cl S S') (fun E S' => S = S' ∧ ((E = gIS ∧ ¬ Fr S) ∨ (E = gIO ∧ False)))) := by
  refine gCt.of (ls := [some (.ref 0), none, none]) 2 (by decide) rfl (Nat.le_of_ble_eq_true rfl) ?_
  refine g_aload_n dX4_version_0 rfl rfl ?_
  refine cV0Y (fun _ _ => rfl) dX4_version_1 mlX4_50 imX4_requireOpen seX4_requireOpen rfl rfl (c_requireOpen _) (by decide) (Nat.le_of_ble_eq_true rfl) (Nat.le_of_ble_eq_true rfl) (Nat.le_of_ble_eq_true rfl) ?_ ?_
  · rintro _ ⟨rfl, hop⟩
    refine g_aload_n dX4_version_4 rfl rfl ?_
    refine g_get dX4_version_5 flX4_19 rfl rfl ?_
    refine g_get dX4_version_8 flX4_79 rfl rfl ?_
    refine g_bipush (v := 100) dX4_version_11 (by decide) ?_
    refine g_icmp_ge (tgt := 44) dX4_version_13 (by decide) (fun c13 => ?_) (fun c13 => ?_)
    · refine g_bipush (v := (-3)) dX4_version_44 (by decide) ?_
      refine g_iret dX4_version_46 rfl (Or.inl ⟨_, _, rfl, rfl, ?_⟩)
      first | exact ⟨⟨_, rfl, fun f => absurd c13 (by rw [f.2.1.2.1]; decide)⟩, Cl.rf _⟩ | exact ⟨⟨_, rfl, fun f => absurd c27 (by rw [(hnc f.n).1]; decide)⟩, q1⟩ | exact ⟨⟨_, rfl, fun f => absurd c41 (by rw [hlr (by rw [(hnc f.n).2, q2, f.2.1.2.2.2.2]; decide)]; decide)⟩, q1⟩
    · refine g_aload_n dX4_version_16 rfl rfl ?_
      refine g_get dX4_version_17 flX4_29 rfl rfl ?_
      refine g_aload_n dX4_version_20 rfl rfl ?_
      refine g_get dX4_version_21 flX4_19 rfl rfl ?_
      refine cV1N (fun _ _ => rfl) dX4_version_24 mlX4_82 imX3_numberChunks seX3_numberChunks rfl rfl (c_numberChunks _) (by decide) (Nat.le_of_ble_eq_true rfl) (Nat.le_of_ble_eq_true rfl) (Nat.le_of_ble_eq_true rfl) ?_
      rintro _ S1 ⟨⟨nc, rfl, nc01, hnc⟩, q1, q2⟩
      refine g_if_eq (tgt := 44) dX4_version_27 (by decide) (fun c27 => ?_) (fun c27 => ?_)
      · refine g_bipush (v := (-3)) dX4_version_44 (by decide) ?_
        refine g_iret dX4_version_46 rfl (Or.inl ⟨_, _, rfl, rfl, ?_⟩)
        first | exact ⟨⟨_, rfl, fun f => absurd c13 (by rw [f.2.1.2.1]; decide)⟩, Cl.rf _⟩ | exact ⟨⟨_, rfl, fun f => absurd c27 (by rw [(hnc f.n).1]; decide)⟩, q1⟩ | exact ⟨⟨_, rfl, fun f => absurd c41 (by rw [hlr (by rw [(hnc f.n).2, q2, f.2.1.2.2.2.2]; decide)]; decide)⟩, q1⟩
      · refine g_aload_n dX4_version_30 rfl rfl ?_
        refine g_aload_n dX4_version_31 rfl rfl ?_
        refine g_get dX4_version_32 flX4_29 rfl rfl ?_
        refine cV0N (fun _ _ => rfl) dX4_version_35 mlX4_86 imX3_bytes seX3_bytes rfl rfl (c_bytes _) (by decide) (Nat.le_of_ble_eq_true rfl) (Nat.le_of_ble_eq_true rfl) (Nat.le_of_ble_eq_true rfl) ?_
        rintro _ _ ⟨rfl, rfl⟩
        refine cV1N (fun _ _ => rfl) dX4_version_38 mlX4_60 imX4_logHasRoom seX4_logHasRoom rfl rfl (c_logHasRoom _ _) (by decide) (Nat.le_of_ble_eq_true rfl) (Nat.le_of_ble_eq_true rfl) (Nat.le_of_ble_eq_true rfl) ?_
        rintro _ _ ⟨⟨lr, rfl, lr01, hlr⟩, rfl⟩
        refine g_if_ne (tgt := 47) dX4_version_41 (by decide) (fun c41 => ?_) (fun c41 => ?_)
        · refine g_iconst (v := 0) dX4_version_47 (by decide) ?_
          refine g_istore_n dX4_version_48 rfl (by decide) ?_
          exact l_wer1 S h0 8 0 _ _ _ _ rfl ⟨q1, by rw [q2]⟩
        · refine g_bipush (v := (-3)) dX4_version_44 (by decide) ?_
          refine g_iret dX4_version_46 rfl (Or.inl ⟨_, _, rfl, rfl, ?_⟩)
          first | exact ⟨⟨_, rfl, fun f => absurd c13 (by rw [f.2.1.2.1]; decide)⟩, Cl.rf _⟩ | exact ⟨⟨_, rfl, fun f => absurd c27 (by rw [(hnc f.n).1]; decide)⟩, q1⟩ | exact ⟨⟨_, rfl, fun f => absurd c41 (by rw [hlr (by rw [(hnc f.n).2, q2, f.2.1.2.2.2.2]; decide)]; decide)⟩, q1⟩
  · rintro E S9 ⟨rfl, rfl, hcl⟩
    exact GTE.out (fun _ h => nomatch h) (Or.inr ⟨_, _, rfl, rfl, rfl, Or.inl ⟨rfl, fun f => f.op hcl⟩⟩)
set_option maxRecDepth 100000 in
set_option maxHeartbeats 4000000 in
theorem d_keep (S : gS) (h0 : ¬ S.1 1 2 < 0) : gCt MX4_keep (7, 106) 1 6 [.ref 0] (wOf τ S) (gX (wOf τ) (fun v S' => (∃ r : Int32, v = .int r ∧ (Fr S → r = 1)) ∧ Cl S S') (fun E S' => S = S' ∧ ((E = gIS ∧ ¬ Fr S) ∨ (E = gIO ∧ False)))) := by
  refine gCt.of (ls := [some (.ref 0)]) 0 (by decide) rfl (Nat.le_of_ble_eq_true rfl) ?_
  refine g_aload_n dX4_keep_0 rfl rfl ?_
  refine cV0Y (fun _ _ => rfl) dX4_keep_1 mlX4_50 imX4_requireOpen seX4_requireOpen rfl rfl (c_requireOpen _) (by decide) (Nat.le_of_ble_eq_true rfl) (Nat.le_of_ble_eq_true rfl) (Nat.le_of_ble_eq_true rfl) ?_ ?_
  · rintro _ ⟨rfl, hop⟩
    refine g_aload_n dX4_keep_4 rfl rfl ?_
    refine g_dup dX4_keep_5 rfl ?_
    refine g_get dX4_keep_6 flX4_119 rfl rfl ?_
    refine g_iconst (v := 1) dX4_keep_9 (by decide) ?_
    refine g_iadd dX4_keep_10 ?_
    refine p_put dX4_keep_11 fpX4_119 rfl (Nat.le_of_ble_eq_true rfl) (fun _ => rfl) (fun _ => rfl) (by with_reducible first | exact wS_0_4 _ _ _) ?_
    refine g_aload_n dX4_keep_14 rfl rfl ?_
    refine cV00 (fun _ _ => rfl) dX4_keep_15 mlX4_122 imX4_writeHead seX4_writeHead rfl rfl (c_writeHead _ (by rw [mS_ne (by decide)]; exact h0)) (by decide) (Nat.le_of_ble_eq_true rfl) (Nat.le_of_ble_eq_true rfl) (Nat.le_of_ble_eq_true rfl) ?_
    rintro _ rfl
    refine g_aload_n dX4_keep_18 rfl rfl ?_
    refine g_get dX4_keep_19 flX4_119 rfl rfl ?_
    refine g_iret dX4_keep_22 rfl (Or.inl ⟨_, _, rfl, rfl, ?_⟩)
    refine ⟨⟨_, rfl, fun f => ?_⟩, Cl.tr (Cl.s (Cl.rf S) (by decide) (by decide)) (whead_Cl _ (by rw [mS_ne (by decide)]; exact h0))⟩
    rw [whead_k _ _ _ (by decide), mS_same, f.1.2.1]; rfl
  · rintro E S9 ⟨rfl, rfl, hcl⟩
    exact GTE.out (fun _ h => nomatch h) (Or.inr ⟨_, _, rfl, rfl, rfl, Or.inl ⟨rfl, fun f => f.op hcl⟩⟩)
set_option maxRecDepth 100000 in
set_option maxHeartbeats 4000000 in
theorem d_badAt (S : gS) : gCt MX4_badAt (7, 170) 1 6 [.ref 0] (wOf τ S) (gX (wOf τ) (fun v S' => (∃ r : Int32, v = .int r ∧ (Fr S → r = -1)) ∧ Cl S S') (fun E S' => S = S' ∧ ((E = gIS ∧ ¬ Fr S) ∨ (E = gIO ∧ False)))) := by
  refine gCt.of (ls := [some (.ref 0)]) 0 (by decide) rfl (Nat.le_of_ble_eq_true rfl) ?_
  refine g_aload_n dX4_badAt_0 rfl rfl ?_
  refine cV0Y (fun _ _ => rfl) dX4_badAt_1 mlX4_50 imX4_requireOpen seX4_requireOpen rfl rfl (c_requireOpen _) (by decide) (Nat.le_of_ble_eq_true rfl) (Nat.le_of_ble_eq_true rfl) (Nat.le_of_ble_eq_true rfl) ?_ ?_
  · rintro _ ⟨rfl, hop⟩
    refine g_aload_n dX4_badAt_4 rfl rfl ?_
    refine g_get dX4_badAt_5 flX4_23 rfl rfl ?_
    refine g_aload_n dX4_badAt_8 rfl rfl ?_
    refine g_get dX4_badAt_9 flX4_12 rfl rfl ?_
    refine g_aload_n dX4_badAt_12 rfl rfl ?_
    refine g_get dX4_badAt_13 flX4_19 rfl rfl ?_
    refine g_get dX4_badAt_16 flX4_160 rfl rfl ?_
    refine g_aload_n dX4_badAt_19 rfl rfl ?_
    refine g_get dX4_badAt_20 flX4_19 rfl rfl ?_
    refine g_get dX4_badAt_23 flX4_138 rfl rfl ?_
    refine cV3N (fun _ _ => rfl) dX4_badAt_26 mlX4_141 imX2_readLog seX2_readLog rfl rfl (c_readLog14 _ _ _) (by decide) (Nat.le_of_ble_eq_true rfl) (Nat.le_of_ble_eq_true rfl) (Nat.le_of_ble_eq_true rfl) ?_
    rintro _ S1 ⟨⟨bad, rfl, hbad⟩, hS1⟩
    refine g_iret dX4_badAt_29 rfl (Or.inl ⟨_, _, rfl, rfl, ?_⟩)
    exact ⟨⟨_, rfl, fun f => (hbad (by rw [f.2.1.2.2.2.2]; decide)).1⟩, hS1⟩
  · rintro E S9 ⟨rfl, rfl, hcl⟩
    exact GTE.out (fun _ h => nomatch h) (Or.inr ⟨_, _, rfl, rfl, rfl, Or.inl ⟨rfl, fun f => f.op hcl⟩⟩)
theorem zretN {p : Program} {l : Launch} {e : Env} {R : Room} {s : State} {m : MethodId} {args : Array Value} {below : List Frame} {meth : Method} {c : Code} {H : Heap} {locs : List Loc} {cells slots : Nat} {cc : ByteArray} {Qc : Array Value → State → Outcome → State → Prop} {free : Addr → Prop} {v u : Int32} {ty : FieldType} (hexec : p.tables.exec = Jvm.exec) (hb : c.code = cc) (hr : meth.sig.returnType = some ty) (hn : narrow ty (.int v) = .int u) (hq : ∀ t : State, t.heap = H → s.WarmedH t.vm → Qc args s (.returned (some (.int u))) t) (hf : ∀ q ∈ locs, free q.base) {pc : Nat} {ls : Array Slot} (hdg : decode cc pc = .ok (.ireturn, 1)) (hlocks : meth.locks = false) : W p l e R s m args below meth c H locs cells slots (MQ below Qc args s cells slots free) (F0 m pc ls [.int v]) := by
  intro T hT X
  obtain ⟨fs, hret, hrun, hended, hW, hframe⟩ := X.leave (v := some (.int u)) (hlocks := hlocks) (fun h => by rw [hr] at h; cases h)
  have hmeth' : T.vm.method? m = some meth := X.method'
  refine ⟨T.setFrames fs, ?_, .returned (some (.int u)), hrun, hended, hq _ hT hW, locs, ⟨⟨_, rfl⟩, hW, hframe⟩, hf⟩
  jvm_step X.here [X.here.top, hexec, hb, hdg, hmeth', hr, hn]
  (try refine ⟨rfl, ?_⟩); (try refine ⟨rfl, ?_⟩)
  first | (intro acts; rw [hret _ acts rfl rfl rfl]) | rw [hret _ _ rfl rfl rfl]
  exact Steps.refl _
theorem g_zretN {X : gXs} {M : gM} {d : Nat × Nat} {pc : Nat} {ls : List (Option Value)} {w : gW} {k n : Nat} {Q : gR → gW → Prop} {x u : Int32} (hd : decode M.2.1 pc = .ok (.ireturn, 1)) (hr : M.2.2.2.1 = some .boolean) (hx : narrow .boolean (.int x) = .int u) (hq : Q (.inl (some (.int u))) w) : GE X M d pc ls [.int x] w k n Q :=
  fun p l e R s m args below meth c A D dA κ0 n0 C EX κ H locs lsr cells slots I => gZ_of (by have := I.2.1; omega) (by have := I.2.2.1; omega) (zretN C.1 C.2.1 (C.2.2.2.1.trans hr) hx (fun t ht _ => gQ_of I hq ht) I.2.2.2.2.2.2.2.2 hd C.2.2.2.2.2.2.2.2.1)
set_option maxRecDepth 100000 in
set_option maxHeartbeats 4000000 in
theorem d_isOpen (S : gS) : gCt MX4_isOpen (0, 0) 0 0 [.ref 0] (wOf τ S) (gN (wOf τ) fun v S' => (∃ r : Int32, v = .int r) ∧ S = S') := by
  refine gCt.of (ls := [some (.ref 0)]) 0 (by decide) rfl (Nat.le_of_ble_eq_true rfl) ?_
  refine g_aload_n dX4_isOpen_0 rfl rfl ?_
  refine g_get dX4_isOpen_1 flX4_125 rfl rfl ?_
  exact g_zretN dX4_isOpen_4 rfl rfl ⟨_, _, rfl, rfl, ⟨_, rfl⟩, rfl⟩
end
