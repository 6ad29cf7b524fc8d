section
variable {Γ : gS} {τ : gW}
theorem nI_xor (a b : Nat) : nI a ^^^ nI b = nI (a ^^^ b) := Int32.toBitVec_inj.1 (by
  show BitVec.ofNat 32 a ^^^ BitVec.ofNat 32 b = BitVec.ofNat 32 (a ^^^ b)
  exact BitVec.ofNat_xor.symm)
theorem DBxor {f : Nat → Int32} (h : DB f) {a : Nat} (ha : a < 24032) (v : Int32) : DB (upd f a (f a ^^^ (v &&& 255))) := by
  intro b hb
  by_cases e : b = a
  · subst e
    obtain ⟨i, hi, ei⟩ := h b hb
    obtain ⟨j, hj, ej⟩ := pk_andE v (m := 255) 8 (by decide)
    refine ⟨i ^^^ j, Nat.xor_lt_two_pow (n := 8) hi hj, ?_⟩
    rw [pk_us, ei, ej, nI_xor]
  · rw [pk_un e]; exact h b hb
/-- what holds of the reference at all times: w bytes written, L of log, V versions, n answers, c chunks, room for rm -/
def R0 (R : gS) (w L V n c rm : Nat) : Prop := (R.1 28 7 = nI w ∧ R.1 28 9 = nI L ∧ R.1 28 16 = nI V ∧ R.1 28 19 = nI n ∧ R.1 28 14 = nI c ∧ R.1 28 1 = nI rm) ∧ (w ≤ 32192 ∧ L ≤ 24000 ∧ V ≤ 100 ∧ n ≤ 100 ∧ 76 * c ≤ L ∧ rm ≤ 65536) ∧ (R.1 28 3 = 0 ∨ R.1 28 3 = 1) ∧ DB (R.2.1 29) ∧ PL R w ∧ SL R c ∧ PT R V
/-- and between calls, t of them gone -/
def RC (R : gS) (w L V n c rm t : Nat) : Prop := R0 R w L V n c rm ∧ (R.1 28 3 = 1 → w ≤ L + 16 * t)
def RI (R : gS) (t : Nat) : Prop := ∃ w L V n c rm : Nat, RC R w L V n c rm t
theorem R0.mr {R : gS} {w L V n c rm : Nat} (h : R0 R w L V n c rm) : Mr R V c := ⟨h.1.2.2.1, h.2.1.2.2.1, by have := h.2.1.2.2.2.2.1; have := h.2.1.2.1; omega, h.2.2.2.2.2.1, h.2.2.2.2.2.2⟩
theorem RC.up {R : gS} {w L V n c rm t t' : Nat} (h : RC R w L V n c rm t) (ht : t ≤ t') : RC R w L V n c rm t' := ⟨h.1, fun z => by have := h.2 z; omega⟩
theorem RC.th {R : gS} {w L V n c rm t : Nat} (h : RC R w L V n c rm t) (v : Int32) : RC (mS R 28 0 v) w L V n c rm t := h
theorem RI.th {R : gS} {t : Nat} (h : RI R t) (v : Int32) : RI (mS R 28 0 v) (t + 1) := by
  obtain ⟨w, L, V, n, c, rm, h⟩ := h
  exact ⟨w, L, V, n, c, rm, (h.th v).up (by omega)⟩
theorem R0.wr {S S' : gS} {w w' L V n c rm : Nat} {f : Nat → Int32} (h : R0 S w L V n c rm) (m : Mw S S' w w' f) (h1 : w' ≤ 32192) : R0 S' w' L V n c rm := by
  obtain ⟨⟨a1, a2, a3, a4, a5, a6⟩, ⟨b1, b2, b3, b4, b5, b6⟩, k3, k5, k6, k7, k8⟩ := h
  obtain ⟨m1, m2, m3, m4, m5, m6, m7, m8⟩ := m
  refine ⟨⟨m1, (m3 9 (by decide)).trans a2, (m3 16 (by decide)).trans a3, (m3 19 (by decide)).trans a4, (m3 14 (by decide)).trans a5, (m3 1 (by decide)).trans a6⟩, ⟨h1, b2, b3, b4, b5, b6⟩, ?_, ?_, m8 k5 k6, ?_, ?_⟩
  · rw [m3 3 (by decide)]; exact k3
  · rw [m2]; exact m7 k5
  · intro j hj
    rw [m5 33 (by decide)]; exact k7 j hj
  · intro i hi
    rw [m5 33 (by decide), m5 36 (by decide)]; exact k8 i hi
theorem R0.dk {S : gS} {w L V n c rm : Nat} (h : R0 S w L V n c rm) {f : Nat → Int32} (hf : DB f) : R0 (mA S 29 f) w L V n c rm := by
  obtain ⟨k1, k2, k3, k5, k6, k7, k8⟩ := h
  have e : ∀ k, k ≠ 29 → (mA S 29 f).2.1 k = S.2.1 k := fun k hk => by simp [mA, hk]
  have e2 : (mA S 29 f).2.1 29 = f := by simp [mA]
  refine ⟨k1, k2, k3, by rw [e2]; exact hf, ?_, ?_, ?_⟩
  · intro i hi
    rw [e 30 (by decide), e 31 (by decide)]; exact k6 i hi
  · intro j hj
    rw [e 33 (by decide)]; exact k7 j hj
  · intro i hi
    rw [e 33 (by decide), e 36 (by decide)]; exact k8 i hi
theorem inD (x : Int32) : ((if x < 0 then 0 else if 24031 < x then 0 else 1 : Int32) = 0) ↔ ¬ (¬ x < 0 ∧ x < 24032) := by
  by_cases h1 : x < 0
  · simp [h1]
  · have e : 24031 < x ↔ ¬ x < 24032 := by
      rw [Int32.lt_iff_toInt_lt, Int32.lt_iff_toInt_lt]
      show (24031 : Int) < x.toInt ↔ ¬ x.toInt < 24032
      omega
    by_cases h2 : 24031 < x
    · simp [h1, h2, e.mp h2]
    · have h3 : x < 24032 := Classical.byContradiction fun z => h2 (e.mpr z)
      simp [h1, h2, h3]
set_option maxRecDepth 100000 in
set_option maxHeartbeats 400000 in
theorem lb_poke (S : gS) (x y : Int32) (t : Nat) (h : RI S t) (tv : Int32) (htv : ¬ tv ≤ 0) : G MX5_poke (1, 22) 20 [some (.ref 28), some (.int x), some (.int y), none] [] (wRf Γ τ (mS S 28 0 tv)) 0 0 (gN (wRf Γ τ) fun v S' => (∃ r : Int32, v = .int r) ∧ RI S' (t + 1)) := by
  refine g_aload_n dX5_poke_20 rfl rfl ?_
  refine g_get dX5_poke_21 flX5_75 rfl rfl ?_
  rw [mS_same]
  refine g_if_le (tgt := 29) dX5_poke_24 (by decide) (fun c24 => ?_) (fun c24 => ?_)
  · exact absurd c24 htv
  · refine g_iconst (v := 0) dX5_poke_27 (by decide) ?_
    refine g_iret dX5_poke_28 rfl ⟨_, _, rfl, rfl, ?_⟩
    exact ⟨⟨_, rfl⟩, h.th _⟩
set_option maxRecDepth 100000 in
set_option maxHeartbeats 400000 in
theorem lg_poke (S : gS) (x y : Int32) (t : Nat) (h : RI S t) (hx : ¬ x < 0 ∧ x < 24032) : G MX5_poke (1, 22) 20 [some (.ref 28), some (.int x), some (.int y), none] [] (wRf Γ τ (mS S 28 0 0)) 0 0 (gN (wRf Γ τ) fun v S' => (∃ r : Int32, v = .int r) ∧ RI S' (t + 1)) := by
  obtain ⟨i, hi, rfl, -⟩ := pk_mu (L := 24032) hx.1 (Int32.not_le.mpr hx.2) (by decide)
  refine g_aload_n dX5_poke_20 rfl rfl ?_
  refine g_get dX5_poke_21 flX5_75 rfl rfl ?_
  rw [mS_same]
  refine g_if_le (tgt := 29) dX5_poke_24 (by decide) (fun c24 => ?_) (fun c24 => ?_)
  · refine g_aload_n dX5_poke_29 rfl rfl ?_
    refine g_get dX5_poke_30 flX5_7 rfl rfl ?_
    refine g_iload_n dX5_poke_33 rfl rfl ?_
    refine g_iald dX5_poke_34 rfl (vp_in_nI hi (by decide)) ?_
    refine g_istore_n dX5_poke_35 rfl (by decide) ?_
    refine g_aload_n dX5_poke_36 rfl rfl ?_
    refine g_get dX5_poke_37 flX5_7 rfl rfl ?_
    refine g_iload_n dX5_poke_40 rfl rfl ?_
    refine g_iload_n dX5_poke_41 rfl rfl ?_
    refine g_iload_n dX5_poke_42 rfl rfl ?_
    refine g_sipush (v := 255) dX5_poke_43 (by decide) ?_
    refine g_iand dX5_poke_46 ?_
    refine g_ixor dX5_poke_47 ?_
    refine p_iast dX5_poke_48 rfl (vp_in_nI hi (by decide)) (by with_reducible first | exact wA_29 _ _ _ _ | exact wA_30 _ _ _ _ | exact wA_31 _ _ _ _ | exact wA_32 _ _ _ _ | exact wA_33 _ _ _ _ | exact wA_34 _ _ _ _ | exact wA_35 _ _ _ _ | exact wA_36 _ _ _ _ | exact wA_37 _ _ _ _ | exact wA_38 _ _ _ _ | exact wA_39 _ _ _ _ | exact wA_40 _ _ _ _ | exact wA_41 _ _ _ _ | exact wA_42 _ _ _ _ | exact wA_43 _ _ _ _ | exact wA_44 _ _ _ _ | exact wA_45 _ _ _ _ | exact wA_46 _ _ _ _ | exact wA_47 _ _ _ _) ?_
    refine g_iload_n dX5_poke_49 rfl rfl ?_
    refine g_iret dX5_poke_50 rfl ⟨_, _, rfl, rfl, ?_⟩
    refine ⟨⟨_, rfl⟩, ?_⟩
    obtain ⟨w, L, V, n, c, rm, h⟩ := h
    refine ⟨w, L, V, n, c, rm, R0.dk (S := mS S 28 0 0) h.1 ?_, fun z => by have := h.2 z; omega⟩
    rw [nI_clamp (n := i) (by omega)]
    exact DBxor h.1.2.2.2.1 hi y
  · exact absurd (by decide) c24
set_option maxRecDepth 100000 in
set_option maxHeartbeats 400000 in
theorem n_poke (S : gS) (x y : Int32) (t : Nat) (h : RI S t) : gCt MX5_poke (1, 22) 0 0 [.ref 28, .int x, .int y] (wRf Γ τ S) (gN (wRf Γ τ) fun v S' => (∃ r : Int32, v = .int r) ∧ RI S' (t + 1)) := by
  refine gCt.of (ls := [some (.ref 28), some (.int x), some (.int y), none]) 1 (by decide) rfl (Nat.le_of_ble_eq_true rfl) ?_
  refine g_aload_n dX5_poke_0 rfl rfl ?_
  refine g_iload_n dX5_poke_1 rfl rfl ?_
  refine g_iconst (v := 0) dX5_poke_2 (by decide) ?_
  refine g_sipush (v := 24031) dX5_poke_3 (by decide) ?_
  refine cS3N (fun _ _ => rfl) dX5_poke_6 mlX5_133 isX5_in (m_in _ _ _ _) (by decide) (Nat.le_of_ble_eq_true rfl) (Nat.le_of_ble_eq_true rfl) (Nat.le_of_ble_eq_true rfl) ?_
  rintro _ _ ⟨rfl, rfl⟩
  refine g_if_eq (tgt := 16) dX5_poke_9 (by decide) (fun c9 => ?_) (fun c9 => ?_)
  · refine g_iconst (v := 1) dX5_poke_16 (by decide) ?_
    refine p_put dX5_poke_17 fpX5_75 rfl (Nat.le_of_ble_eq_true rfl) (fun _ => rfl) (fun _ => rfl) (by with_reducible first | exact wS_28_0 _ _ _ _) ?_
    exact lb_poke S x y t h 1 (by decide)
  · refine g_iconst (v := 0) dX5_poke_12 (by decide) ?_
    refine g_goto (tgt := 17) dX5_poke_13 (by decide) ?_
    refine p_put dX5_poke_17 fpX5_75 rfl (Nat.le_of_ble_eq_true rfl) (fun _ => rfl) (fun _ => rfl) (by with_reducible first | exact wS_28_0 _ _ _ _) ?_
    exact lg_poke S x y t h (Classical.byContradiction fun q => c9 ((inD x).mpr q))
set_option maxRecDepth 100000 in
set_option maxHeartbeats 400000 in
theorem lb_byteAt (S : gS) (x : Int32) (t : Nat) (h : RI S t) (tv : Int32) (htv : ¬ tv ≤ 0) : G MX5_byteAt (1, 22) 20 [some (.ref 28), some (.int x)] [] (wRf Γ τ (mS S 28 0 tv)) 0 0 (gN (wRf Γ τ) fun v S' => (∃ r : Int32, v = .int r) ∧ RI S' (t + 1)) := by
  refine g_aload_n dX5_byteAt_20 rfl rfl ?_
  refine g_get dX5_byteAt_21 flX5_75 rfl rfl ?_
  rw [mS_same]
  refine g_if_le (tgt := 31) dX5_byteAt_24 (by decide) (fun c24 => ?_) (fun c24 => ?_)
  · exact absurd c24 htv
  · refine g_iconst (v := 0) dX5_byteAt_27 (by decide) ?_
    refine g_goto (tgt := 37) dX5_byteAt_28 (by decide) ?_
    refine g_iret dX5_byteAt_37 rfl ⟨_, _, rfl, rfl, ?_⟩
    exact ⟨⟨_, rfl⟩, h.th _⟩
set_option maxRecDepth 100000 in
set_option maxHeartbeats 400000 in
theorem lg_byteAt (S : gS) (x : Int32) (t : Nat) (h : RI S t) (hx : ¬ x < 0 ∧ x < 24032) : G MX5_byteAt (1, 22) 20 [some (.ref 28), some (.int x)] [] (wRf Γ τ (mS S 28 0 0)) 0 0 (gN (wRf Γ τ) fun v S' => (∃ r : Int32, v = .int r) ∧ RI S' (t + 1)) := by
  obtain ⟨i, hi, rfl, -⟩ := pk_mu (L := 24032) hx.1 (Int32.not_le.mpr hx.2) (by decide)
  refine g_aload_n dX5_byteAt_20 rfl rfl ?_
  refine g_get dX5_byteAt_21 flX5_75 rfl rfl ?_
  rw [mS_same]
  refine g_if_le (tgt := 31) dX5_byteAt_24 (by decide) (fun c24 => ?_) (fun c24 => ?_)
  · refine g_aload_n dX5_byteAt_31 rfl rfl ?_
    refine g_get dX5_byteAt_32 flX5_7 rfl rfl ?_
    refine g_iload_n dX5_byteAt_35 rfl rfl ?_
    refine g_iald dX5_byteAt_36 rfl (vp_in_nI hi (by decide)) ?_
    refine g_iret dX5_byteAt_37 rfl ⟨_, _, rfl, rfl, ?_⟩
    exact ⟨⟨_, rfl⟩, h.th _⟩
  · exact absurd (by decide) c24
set_option maxRecDepth 100000 in
set_option maxHeartbeats 400000 in
theorem n_byteAt (S : gS) (x : Int32) (t : Nat) (h : RI S t) : gCt MX5_byteAt (1, 22) 0 0 [.ref 28, .int x] (wRf Γ τ S) (gN (wRf Γ τ) fun v S' => (∃ r : Int32, v = .int r) ∧ RI S' (t + 1)) := by
  refine gCt.of (ls := [some (.ref 28), some (.int x)]) 0 (by decide) rfl (Nat.le_of_ble_eq_true rfl) ?_
  refine g_aload_n dX5_byteAt_0 rfl rfl ?_
  refine g_iload_n dX5_byteAt_1 rfl rfl ?_
  refine g_iconst (v := 0) dX5_byteAt_2 (by decide) ?_
  refine g_sipush (v := 24031) dX5_byteAt_3 (by decide) ?_
  refine cS3N (fun _ _ => rfl) dX5_byteAt_6 mlX5_133 isX5_in (m_in _ _ _ _) (by decide) (Nat.le_of_ble_eq_true rfl) (Nat.le_of_ble_eq_true rfl) (Nat.le_of_ble_eq_true rfl) ?_
  rintro _ _ ⟨rfl, rfl⟩
  refine g_if_eq (tgt := 16) dX5_byteAt_9 (by decide) (fun c9 => ?_) (fun c9 => ?_)
  · refine g_iconst (v := 1) dX5_byteAt_16 (by decide) ?_
    refine p_put dX5_byteAt_17 fpX5_75 rfl (Nat.le_of_ble_eq_true rfl) (fun _ => rfl) (fun _ => rfl) (by with_reducible first | exact wS_28_0 _ _ _ _) ?_
    exact lb_byteAt S x t h 1 (by decide)
  · refine g_iconst (v := 0) dX5_byteAt_12 (by decide) ?_
    refine g_goto (tgt := 17) dX5_byteAt_13 (by decide) ?_
    refine p_put dX5_byteAt_17 fpX5_75 rfl (Nat.le_of_ble_eq_true rfl) (fun _ => rfl) (fun _ => rfl) (by with_reducible first | exact wS_28_0 _ _ _ _) ?_
    exact lg_byteAt S x t h (Classical.byContradiction fun q => c9 ((inD x).mpr q))
set_option maxRecDepth 100000 in
set_option maxHeartbeats 400000 in
theorem n_isOpen (S : gS) (t : Nat) (h : RI S t) : gCt MX5_isOpen (0, 0) 0 0 [.ref 28] (wRf Γ τ S) (gN (wRf Γ τ) fun v S' => (∃ r : Int32, v = .int r) ∧ RI S' (t + 1)) := by
  refine gCt.of (ls := [some (.ref 28)]) 0 (by decide) rfl (Nat.le_of_ble_eq_true rfl) ?_
  refine g_aload_n dX5_isOpen_0 rfl rfl ?_
  refine g_iconst (v := 0) dX5_isOpen_1 (by decide) ?_
  refine p_put dX5_isOpen_2 fpX5_75 rfl (Nat.le_of_ble_eq_true rfl) (fun _ => rfl) (fun _ => rfl) (by with_reducible first | exact wS_28_0 _ _ _ _) ?_
  refine g_aload_n dX5_isOpen_5 rfl rfl ?_
  refine g_get dX5_isOpen_6 flX5_94 rfl rfl ?_
  refine g_zret dX5_isOpen_9 rfl (by obtain ⟨w, L, V, n, c, rm, h⟩ := h; rcases (h.th 0).1.2.2.1 with e | e <;> rw [e] <;> rfl) ⟨_, _, rfl, rfl, ?_⟩
  exact ⟨⟨_, rfl⟩, h.th _⟩
set_option maxRecDepth 100000 in
set_option maxHeartbeats 400000 in
theorem lb_keep (S : gS) (t : Nat) (h : RI S t) (ht : t < 512) (tv : Int32) (htv : ¬ tv ≤ 0) : G MX5_keep (3, 87) 16 [some (.ref 28)] [] (wRf Γ τ (mS S 28 0 tv)) 0 0 (gN (wRf Γ τ) fun v S' => (∃ r : Int32, v = .int r) ∧ RI S' (t + 1)) := by
  refine g_aload_n dX5_keep_16 rfl rfl ?_
  refine g_get dX5_keep_17 flX5_75 rfl rfl ?_
  rw [mS_same]
  refine g_if_le (tgt := 25) dX5_keep_20 (by decide) (fun c20 => ?_) (fun c20 => ?_)
  · exact absurd c20 htv
  · refine g_iconst (v := 0) dX5_keep_23 (by decide) ?_
    refine g_iret dX5_keep_24 rfl ⟨_, _, rfl, rfl, ?_⟩
    exact ⟨⟨_, rfl⟩, h.th _⟩
set_option maxRecDepth 100000 in
set_option maxHeartbeats 400000 in
theorem lg_keep (S : gS) (t : Nat) (h : RI S t) (ht : t < 512) (ho : S.1 28 3 = 1) : G MX5_keep (3, 87) 16 [some (.ref 28)] [] (wRf Γ τ (mS S 28 0 0)) 0 0 (gN (wRf Γ τ) fun v S' => (∃ r : Int32, v = .int r) ∧ RI S' (t + 1)) := by
  obtain ⟨w, L, V, n, c, rm, h⟩ := h
  refine g_aload_n dX5_keep_16 rfl rfl ?_
  refine g_get dX5_keep_17 flX5_75 rfl rfl ?_
  rw [mS_same]
  refine g_if_le (tgt := 25) dX5_keep_20 (by decide) (fun c20 => ?_) (fun c20 => ?_)
  · refine g_aload_n dX5_keep_25 rfl rfl ?_
    refine g_dup dX5_keep_26 rfl ?_
    refine g_get dX5_keep_27 flX5_88 rfl rfl ?_
    refine g_iconst (v := 1) dX5_keep_30 (by decide) ?_
    refine g_iadd dX5_keep_31 ?_
    refine p_put dX5_keep_32 fpX5_88 rfl (Nat.le_of_ble_eq_true rfl) (fun _ => rfl) (fun _ => rfl) (by with_reducible first | exact wS_28_4 _ _ _ _) ?_
    have hb := h.2 ho
    have hw1 : (mS (mS S 28 0 0) 28 4 (S.1 28 4 + 1)).1 28 7 = nI w := h.1.1.1
    have hw2 : w + 16 ≤ 131072 := by have := h.1.2.1.1; omega
    refine g_aload_n dX5_keep_35 rfl rfl ?_
    refine g_aload_n dX5_keep_36 rfl rfl ?_
    refine g_get dX5_keep_37 flX5_88 rfl rfl ?_
    refine cV10 (fun _ _ => rfl) dX5_keep_40 mlX5_91 imX5_putHead seX5_putHead rfl rfl (m_putHead _ w _ hw1 hw2) (by decide) (Nat.le_of_ble_eq_true rfl) (Nat.le_of_ble_eq_true rfl) (Nat.le_of_ble_eq_true rfl) ?_
    rintro S2 ⟨pl, -, -, hS2⟩
    refine g_aload_n dX5_keep_43 rfl rfl ?_
    refine g_get dX5_keep_44 flX5_88 rfl rfl ?_
    refine g_iret dX5_keep_47 rfl ⟨_, _, rfl, rfl, ?_⟩
    refine ⟨⟨_, rfl⟩, w + 16, L, V, n, c, rm, ?_⟩
    have h4 : R0 (mS (mS S 28 0 0) 28 4 (S.1 28 4 + 1)) w L V n c rm := h.1
    have hL := h.1.2.1.2.1
    exact ⟨h4.wr hS2 (by omega), fun _ => by omega⟩
  · exact absurd (by decide) c20
set_option maxRecDepth 100000 in
set_option maxHeartbeats 400000 in
theorem n_keep (S : gS) (t : Nat) (h : RI S t) (ht : t < 512) : gCt MX5_keep (3, 87) 0 0 [.ref 28] (wRf Γ τ S) (gN (wRf Γ τ) fun v S' => (∃ r : Int32, v = .int r) ∧ RI S' (t + 1)) := by
  refine gCt.of (ls := [some (.ref 28)]) 0 (by decide) rfl (Nat.le_of_ble_eq_true rfl) ?_
  refine g_aload_n dX5_keep_0 rfl rfl ?_
  refine g_aload_n dX5_keep_1 rfl rfl ?_
  refine g_get dX5_keep_2 flX5_94 rfl rfl ?_
  refine g_if_eq (tgt := 12) dX5_keep_5 (by decide) (fun c5 => ?_) (fun c5 => ?_)
  · refine g_iconst (v := 1) dX5_keep_12 (by decide) ?_
    refine p_put dX5_keep_13 fpX5_75 rfl (Nat.le_of_ble_eq_true rfl) (fun _ => rfl) (fun _ => rfl) (by with_reducible first | exact wS_28_0 _ _ _ _) ?_
    exact lb_keep S t h ht 1 (by decide)
  · refine g_iconst (v := 0) dX5_keep_8 (by decide) ?_
    refine g_goto (tgt := 13) dX5_keep_9 (by decide) ?_
    refine p_put dX5_keep_13 fpX5_75 rfl (Nat.le_of_ble_eq_true rfl) (fun _ => rfl) (fun _ => rfl) (by with_reducible first | exact wS_28_0 _ _ _ _) ?_
    exact lg_keep S t h ht (by obtain ⟨w, L, V, n, c, rm, h⟩ := h; exact h.1.2.2.1.resolve_left c5)
set_option maxRecDepth 100000 in
set_option maxHeartbeats 400000 in
theorem ln_crash (x : Int32) (bk L V n c rm t : Nat) (hbk : bk < 2 ^ 31) : ∀ (m k w : Nat) (S : gS), k + m = bk → m ≤ w → S.1 28 3 = 0 → R0 S w L V n c rm → G MX5_crash (0, 0) 46 [some (.ref 28), some (.int x), some (.int (nI bk)), some (.int (nI k))] [] (wRf Γ τ S) 0 0 (gN (wRf Γ τ) fun v S' => (∃ r : Int32, v = .int r) ∧ RI S' (t + 1)) := by
  intro m
  induction m with
  | zero =>
    intro k w S hk hm ho h
    obtain rfl : k = bk := by omega
    refine g_iload_n dX5_crash_46 rfl rfl ?_
    refine g_iload_n dX5_crash_47 rfl rfl ?_
    refine g_icmp_ge (tgt := 90) dX5_crash_48 (by decide) (fun c48 => ?_) (fun c48 => ?_)
    · refine g_iload_n dX5_crash_90 rfl rfl ?_
      refine g_iret dX5_crash_91 rfl ⟨_, _, rfl, rfl, ?_⟩
      exact ⟨⟨_, rfl⟩, w, L, V, n, c, rm, h, fun z => absurd (ho.symm.trans z) (by decide)⟩
    · exact absurd (Int32.le_refl _) c48
  | succ m ih =>
    intro k w S hk hm ho h
    obtain ⟨u, rfl⟩ : ∃ u, w = u + 1 := ⟨w - 1, by omega⟩
    have hw9 := h.2.1.1
    obtain ⟨⟨a, ha, ea⟩, b, hb, eb⟩ := h.2.2.2.2.1 u (by omega)
    have e7 : (mS S 28 7 (S.1 28 7 - 1)).1 28 7 = nI u := by rw [mS_same, h.1.1, nI_m1]
    refine g_iload_n dX5_crash_46 rfl rfl ?_
    refine g_iload_n dX5_crash_47 rfl rfl ?_
    refine g_icmp_ge (tgt := 90) dX5_crash_48 (by decide) (fun c48 => ?_) (fun c48 => ?_)
    · exact absurd c48 (nI_ge (by omega) (by omega))
    · refine g_aload_n dX5_crash_51 rfl rfl ?_
      refine g_dup dX5_crash_52 rfl ?_
      refine g_get dX5_crash_53 flX5_85 rfl rfl ?_
      refine g_iconst (v := 1) dX5_crash_56 (by decide) ?_
      refine g_isub dX5_crash_57 ?_
      refine p_put dX5_crash_58 fpX5_85 rfl (Nat.le_of_ble_eq_true rfl) (fun _ => rfl) (fun _ => rfl) (by with_reducible first | exact wS_28_7 _ _ _ _) ?_
      refine g_aload_n dX5_crash_61 rfl rfl ?_
      refine g_get dX5_crash_62 flX5_7 rfl rfl ?_
      refine g_aload_n dX5_crash_65 rfl rfl ?_
      refine g_get dX5_crash_66 flX5_14 rfl rfl ?_
      refine g_aload_n dX5_crash_69 rfl rfl ?_
      refine g_get dX5_crash_70 flX5_85 rfl rfl ?_
      refine g_eqi (y := nI (u)) (e7) ?_
      refine g_iald dX5_crash_73 rfl (vp_in_nI (by omega) (by decide)) ?_
      refine g_eqi (y := nI (a)) (by rw [nI_clamp (n := u) (by omega)]; exact ea) ?_
      refine g_aload_n dX5_crash_74 rfl rfl ?_
      refine g_get dX5_crash_75 flX5_17 rfl rfl ?_
      refine g_aload_n dX5_crash_78 rfl rfl ?_
      refine g_get dX5_crash_79 flX5_85 rfl rfl ?_
      refine g_eqi (y := nI (u)) (e7) ?_
      refine g_iald dX5_crash_82 rfl (vp_in_nI (by omega) (by decide)) ?_
      refine g_eqi (y := nI (b)) (by rw [nI_clamp (n := u) (by omega)]; exact eb) ?_
      refine p_iast dX5_crash_83 rfl (vp_in_nI ha (by decide)) (by with_reducible first | exact wA_29 _ _ _ _ | exact wA_30 _ _ _ _ | exact wA_31 _ _ _ _ | exact wA_32 _ _ _ _ | exact wA_33 _ _ _ _ | exact wA_34 _ _ _ _ | exact wA_35 _ _ _ _ | exact wA_36 _ _ _ _ | exact wA_37 _ _ _ _ | exact wA_38 _ _ _ _ | exact wA_39 _ _ _ _ | exact wA_40 _ _ _ _ | exact wA_41 _ _ _ _ | exact wA_42 _ _ _ _ | exact wA_43 _ _ _ _ | exact wA_44 _ _ _ _ | exact wA_45 _ _ _ _ | exact wA_46 _ _ _ _ | exact wA_47 _ _ _ _) ?_
      refine g_iinc dX5_crash_84 rfl (by decide) (by first | exact gi_1 _ | exact gi_p _) ?_
      refine g_goto (tgt := 46) dX5_crash_87 (by decide) ?_
      refine ih (k + 1) u _ (by omega) (by omega) ho ?_
      refine R0.dk (S := mS S 28 7 (S.1 28 7 - 1)) ?_ ?_
      · exact ⟨⟨e7, h.1.2⟩, ⟨by omega, h.2.1.2⟩, h.2.2.1, h.2.2.2.1, fun i hi => h.2.2.2.2.1 i (by omega), h.2.2.2.2.2⟩
      · intro j hj
        by_cases ej : j = a
        · subst ej; rw [nI_clamp (n := j) (by omega), pk_us]; exact ⟨b, hb, rfl⟩
        · rw [nI_clamp (n := a) (by omega), pk_un ej]; exact h.2.2.2.1 j hj
set_option maxRecDepth 100000 in
set_option maxHeartbeats 400000 in
theorem n_crash (S : gS) (x : Int32) (t : Nat) (h : RI S t) : gCt MX5_crash (0, 0) 0 0 [.ref 28, .int x] (wRf Γ τ S) (gN (wRf Γ τ) fun v S' => (∃ r : Int32, v = .int r) ∧ RI S' (t + 1)) := by
  refine gCt.of (ls := [some (.ref 28), some (.int x), none, none]) 2 (by decide) rfl (Nat.le_of_ble_eq_true rfl) ?_
  obtain ⟨w, L, V, n, c, rm, h⟩ := h
  have h2 : R0 (mS (mS S 28 0 0) 28 3 0) w L V n c rm := ⟨h.1.1, h.1.2.1, Or.inl rfl, h.1.2.2.2⟩
  have hw := h.1.2.1.1
  refine g_aload_n dX5_crash_0 rfl rfl ?_
  refine g_iconst (v := 0) dX5_crash_1 (by decide) ?_
  refine p_put dX5_crash_2 fpX5_75 rfl (Nat.le_of_ble_eq_true rfl) (fun _ => rfl) (fun _ => rfl) (by with_reducible first | exact wS_28_0 _ _ _ _) ?_
  refine g_aload_n dX5_crash_5 rfl rfl ?_
  refine g_get dX5_crash_6 flX5_94 rfl rfl ?_
  refine g_if_ne (tgt := 14) dX5_crash_9 (by decide) (fun c9 => ?_) (fun c9 => ?_)
  · refine g_aload_n dX5_crash_14 rfl rfl ?_
    refine g_iconst (v := 0) dX5_crash_15 (by decide) ?_
    refine p_put dX5_crash_16 fpX5_94 rfl (Nat.le_of_ble_eq_true rfl) (fun _ => rfl) (fun _ => rfl) (by with_reducible first | exact wS_28_3 _ _ _ _) ?_
    refine g_iload_n dX5_crash_19 rfl rfl ?_
    refine g_if_ge (tgt := 27) dX5_crash_20 (by decide) (fun c20 => ?_) (fun c20 => ?_)
    · refine g_iload_n dX5_crash_27 rfl rfl ?_
      refine g_aload_n dX5_crash_28 rfl rfl ?_
      refine g_get dX5_crash_29 flX5_85 rfl rfl ?_
      refine g_icmp_ge (tgt := 39) dX5_crash_32 (by decide) (fun c32 => ?_) (fun c32 => ?_)
      · refine g_aload_n dX5_crash_39 rfl rfl ?_
        refine g_get dX5_crash_40 flX5_85 rfl rfl ?_
        refine g_eqi (y := nI w) (h.1.1.1) ?_
        refine g_istore_n dX5_crash_43 rfl (by decide) ?_
        refine g_iconst (v := 0) dX5_crash_44 (by decide) ?_
        refine g_istore_n dX5_crash_45 rfl (by decide) ?_
        exact ln_crash x w L V n c rm t (by omega) w 0 w _ (by omega) (by omega) rfl h2
      · refine g_iload_n dX5_crash_35 rfl rfl ?_
        refine g_goto (tgt := 43) dX5_crash_36 (by decide) ?_
        obtain ⟨j, hj31, hj⟩ := nI_of0 (Int32.not_lt.mpr c20)
        refine g_eqi (y := nI j) (hj) ?_
        refine g_istore_n dX5_crash_43 rfl (by decide) ?_
        refine g_iconst (v := 0) dX5_crash_44 (by decide) ?_
        refine g_istore_n dX5_crash_45 rfl (by decide) ?_
        exact ln_crash x j L V n c rm t (by omega) j 0 w _ (by omega) (Nat.le_of_lt (Nat.lt_of_not_le fun z => c32 (by rw [show (mS (mS S 28 0 0) 28 3 0).1 28 7 = nI w from h.1.1.1, hj]; exact nI_le z hj31))) rfl h2
    · refine g_iconst (v := 0) dX5_crash_23 (by decide) ?_
      refine g_goto (tgt := 43) dX5_crash_24 (by decide) ?_
      refine g_eqi (y := nI 0) (rfl) ?_
      refine g_istore_n dX5_crash_43 rfl (by decide) ?_
      refine g_iconst (v := 0) dX5_crash_44 (by decide) ?_
      refine g_istore_n dX5_crash_45 rfl (by decide) ?_
      exact ln_crash x 0 L V n c rm t (by omega) 0 0 w _ (by omega) (by omega) rfl h2
  · refine g_iconst (v := 0) dX5_crash_12 (by decide) ?_
    refine g_iret dX5_crash_13 rfl ⟨_, _, rfl, rfl, ?_⟩
    exact ⟨⟨_, rfl⟩, w, L, V, n, c, rm, (h.th 0).up (by omega)⟩
end
