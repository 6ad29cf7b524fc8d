section
variable {Γ : gS} {τ : gW}
theorem mS_22 (S : gS) (k j : Nat) (v : Int32) : (mS S k j v).2 = S.2 := rfl
theorem mAk3 (S : gS) (a k : Nat) (F : Nat → Int32) (h : k ≠ a) : (mA S a F).2.1 k = S.2.1 k := by simp [mA, h]
theorem mAs3 (S : gS) (a : Nat) (F : Nat → Int32) : (mA S a F).2.1 a = F := by simp [mA]
theorem mA_1 (S : gS) (a : Nat) (F : Nat → Int32) : (mA S a F).1 = S.1 := rfl
theorem mL_1 (S : gS) (a : Nat) (F : Nat → Int64) : (mL S a F).1 = S.1 := rfl
theorem mL_21 (S : gS) (a : Nat) (F : Nat → Int64) : (mL S a F).2.1 = S.2.1 := rfl
theorem msc_2 (S : gS) : (msc S).2 = S.2 := rfl
theorem man1_1 (c : Int32) (S : gS) (j : Nat) (h7 : j ≠ 7) (h4 : j ≠ 4) : (man1 c S).1 28 j = (msc (mS S 28 1 c)).1 28 j := by
  unfold man1 mfor
  rw [mS_ne (fun z => h4 z.2), mS_ne (fun z => h7 z.2), mA_1, mA_1, mL_1]
  unfold msc
  rfl
theorem man1_29 (c : Int32) (S : gS) : (man1 c S).2.1 29 = fillB (S.2.1 29) 0 24032 := by
  unfold man1 mfor
  rw [mS_22, mS_22, mAk3 _ _ _ _ (by decide), mAk3 _ _ _ _ (by decide), mL_21, msc_2, mAs3]
theorem man1_33 (c : Int32) (S : gS) : (man1 c S).2.1 33 = fillB (S.2.1 33) (-1) 65536 := by
  unfold man1 mfor
  rw [mS_22, mS_22, mAk3 _ _ _ _ (by decide), mAs3, mAk3 _ _ _ _ (by decide), mS_22]
theorem RI_new {S S2 : gS} {x : Int32} {t : Nat} (h1 : 0 ≤ x) (h3 : x ≤ 65536) (h : Mw (man1 x S) S2 0 16 (mhd ((man1 x S).2.1 29) 0 0 ((man1 x S).1 28 9))) : RI (mS (mS S2 28 7 0) 28 3 1) t := by
  obtain ⟨rm, hrm, rfl⟩ := nI_of0 (Int32.not_lt.mpr h1)
  have hrm2 : rm ≤ 65536 := Classical.byContradiction fun z => absurd h3 (nI_ge (a := 65536) (b := rm) (by omega) hrm)
  have k : ∀ j, j ≠ 7 → j ≠ 3 → j ≠ 4 → (mS (mS S2 28 7 0) 28 3 1).1 28 j = (msc (mS S 28 1 (nI rm))).1 28 j := fun j j1 j2 j3 => by
    rw [mS_ne (fun z => j2 z.2), mS_ne (fun z => j1 z.2), h.2.2.1 j j1]
    exact man1_1 _ _ j j1 j3
  have hD : DB ((man1 (nI rm) S).2.1 29) := by
    intro a ha
    rw [man1_29, fillB_in _ _ _ _ ha]
    exact ⟨0, by decide, rfl⟩
  refine ⟨0, 0, 0, 0, 0, rm, ⟨⟨by rw [mS_ne (by decide), mS_same]; rfl, (k 9 (by decide) (by decide) (by decide)).trans rfl, (k 16 (by decide) (by decide) (by decide)).trans rfl, (k 19 (by decide) (by decide) (by decide)).trans rfl, (k 14 (by decide) (by decide) (by decide)).trans rfl, (k 1 (by decide) (by decide) (by decide)).trans rfl⟩, ⟨by decide, by decide, by decide, by decide, by decide, hrm2⟩, Or.inr (mS_same _ _ _ _), ?_, fun i hi => absurd hi (Nat.not_lt_zero _), fun j hj => Or.inl ?_, fun i hi => absurd hi (Nat.not_lt_zero _)⟩, fun _ => Nat.zero_le _⟩
  · rw [mS_22, mS_22, h.2.1]; exact h.2.2.2.2.2.2.1 hD
  · rw [mS_22, mS_22, h.2.2.2.2.1 33 (by decide), man1_33]; exact fillB_in _ _ _ _ hj
theorem man1_0' (x : Int32) (S : gS) : (man1 x S).1 28 0 = S.1 28 0 := man1_0 x S
set_option maxRecDepth 100000 in
set_option maxHeartbeats 400000 in
theorem n_begin (S : gS) (x : Int32) (t : Nat) (h : RI S t) : gCt MX5_begin (4, 109) 0 0 [.ref 28, .int x] (wRf Γ τ S) (g0 (wRf Γ τ) fun S' => ((x < 0 → S'.1 28 0 = 1) ∧ (¬ x < 0 → (x = 0 ∨ ¬ x ≤ 65536) → S'.1 28 0 = 2) ∧ (¬ x < 0 → ¬ x = 0 → x ≤ 65536 → S'.1 28 0 = 0)) ∧ RI S' (t + 1)) := by
  refine gCt.of (ls := [some (.ref 28), some (.int x)]) 0 (by decide) rfl (Nat.le_of_ble_eq_true rfl) ?_
  refine g_aload_n dX5_begin_0 rfl rfl ?_
  refine g_iload_n dX5_begin_1 rfl rfl ?_
  refine g_if_ge (tgt := 9) dX5_begin_2 (by decide) (fun c2 => ?_) (fun c2 => ?_)
  · refine g_iload_n dX5_begin_9 rfl rfl ?_
    refine g_if_eq (tgt := 19) dX5_begin_10 (by decide) (fun c10 => ?_) (fun c10 => ?_)
    · refine g_iconst (v := 2) dX5_begin_19 (by decide) ?_
      refine g_goto (tgt := 24) dX5_begin_20 (by decide) ?_
      refine p_put dX5_begin_24 fpX5_75 rfl (Nat.le_of_ble_eq_true rfl) (fun _ => rfl) (fun _ => rfl) (by with_reducible first | exact wS_28_0 _ _ _ _) ?_
      refine g_aload_n dX5_begin_27 rfl rfl ?_
      refine g_get dX5_begin_28 flX5_75 rfl rfl ?_
      refine g_if_ne (tgt := 39) dX5_begin_31 (by decide) (fun c31 => ?_) (fun c31 => ?_)
      · refine g_vret dX5_begin_39 rfl ⟨_, rfl, rfl, ?_⟩
        first | exact absurd (mS_same S 28 0 0) c31 | exact absurd ((mS_same S 28 0 1).symm.trans c31) (by decide) | exact absurd ((mS_same S 28 0 2).symm.trans c31) (by decide) | exact ⟨⟨fun z => absurd z (Int32.not_lt.mpr c2), fun _ z => absurd z (fun z => z.elim c10 (fun y => y c16)), fun _ _ _ => (by rw [mS_ne (by decide), mS_ne (by decide), hS2.2.2.1 0 (by decide), man1_0, mS_same])⟩, RI_new c2 c16 hS2⟩ | exact ⟨⟨fun _ => mS_same _ _ _ _, fun z => absurd (Int32.not_le.mp c2) z, fun z => absurd (Int32.not_le.mp c2) z⟩, h.th _⟩ | exact ⟨⟨fun z => absurd z (Int32.not_lt.mpr c2), fun _ _ => mS_same _ _ _ _, fun _ z => absurd c10 z⟩, h.th _⟩ | exact ⟨⟨fun z => absurd z (Int32.not_lt.mpr c2), fun _ _ => mS_same _ _ _ _, fun _ _ z => absurd z c16⟩, h.th _⟩
      · refine g_aload_n dX5_begin_34 rfl rfl ?_
        refine g_iload_n dX5_begin_35 rfl rfl ?_
        refine cV10 (fun _ _ => rfl) dX5_begin_36 mlX5_71 imX5_anew seX5_anew rfl rfl (m_anew _ _) (by decide) (Nat.le_of_ble_eq_true rfl) (Nat.le_of_ble_eq_true rfl) (Nat.le_of_ble_eq_true rfl) ?_
        rintro _ ⟨S2, hS2, rfl⟩
        refine g_vret dX5_begin_39 rfl ⟨_, rfl, rfl, ?_⟩
        first | exact absurd (mS_same S 28 0 0) c31 | exact absurd ((mS_same S 28 0 1).symm.trans c31) (by decide) | exact absurd ((mS_same S 28 0 2).symm.trans c31) (by decide) | exact ⟨⟨fun z => absurd z (Int32.not_lt.mpr c2), fun _ z => absurd z (fun z => z.elim c10 (fun y => y c16)), fun _ _ _ => (by rw [mS_ne (by decide), mS_ne (by decide), hS2.2.2.1 0 (by decide), man1_0, mS_same])⟩, RI_new c2 c16 hS2⟩ | exact ⟨⟨fun _ => mS_same _ _ _ _, fun z => absurd (Int32.not_le.mp c2) z, fun z => absurd (Int32.not_le.mp c2) z⟩, h.th _⟩ | exact ⟨⟨fun z => absurd z (Int32.not_lt.mpr c2), fun _ _ => mS_same _ _ _ _, fun _ z => absurd c10 z⟩, h.th _⟩ | exact ⟨⟨fun z => absurd z (Int32.not_lt.mpr c2), fun _ _ => mS_same _ _ _ _, fun _ _ z => absurd z c16⟩, h.th _⟩
    · refine g_iload_n dX5_begin_13 rfl rfl ?_
      refine g_ldc dX5_begin_14 coX5_24 ?_
      refine g_icmp_le (tgt := 23) dX5_begin_16 (by decide) (fun c16 => ?_) (fun c16 => ?_)
      · refine g_iconst (v := 0) dX5_begin_23 (by decide) ?_
        refine p_put dX5_begin_24 fpX5_75 rfl (Nat.le_of_ble_eq_true rfl) (fun _ => rfl) (fun _ => rfl) (by with_reducible first | exact wS_28_0 _ _ _ _) ?_
        refine g_aload_n dX5_begin_27 rfl rfl ?_
        refine g_get dX5_begin_28 flX5_75 rfl rfl ?_
        refine g_if_ne (tgt := 39) dX5_begin_31 (by decide) (fun c31 => ?_) (fun c31 => ?_)
        · refine g_vret dX5_begin_39 rfl ⟨_, rfl, rfl, ?_⟩
          first | exact absurd (mS_same S 28 0 0) c31 | exact absurd ((mS_same S 28 0 1).symm.trans c31) (by decide) | exact absurd ((mS_same S 28 0 2).symm.trans c31) (by decide) | exact ⟨⟨fun z => absurd z (Int32.not_lt.mpr c2), fun _ z => absurd z (fun z => z.elim c10 (fun y => y c16)), fun _ _ _ => (by rw [mS_ne (by decide), mS_ne (by decide), hS2.2.2.1 0 (by decide), man1_0, mS_same])⟩, RI_new c2 c16 hS2⟩ | exact ⟨⟨fun _ => mS_same _ _ _ _, fun z => absurd (Int32.not_le.mp c2) z, fun z => absurd (Int32.not_le.mp c2) z⟩, h.th _⟩ | exact ⟨⟨fun z => absurd z (Int32.not_lt.mpr c2), fun _ _ => mS_same _ _ _ _, fun _ z => absurd c10 z⟩, h.th _⟩ | exact ⟨⟨fun z => absurd z (Int32.not_lt.mpr c2), fun _ _ => mS_same _ _ _ _, fun _ _ z => absurd z c16⟩, h.th _⟩
        · refine g_aload_n dX5_begin_34 rfl rfl ?_
          refine g_iload_n dX5_begin_35 rfl rfl ?_
          refine cV10 (fun _ _ => rfl) dX5_begin_36 mlX5_71 imX5_anew seX5_anew rfl rfl (m_anew _ _) (by decide) (Nat.le_of_ble_eq_true rfl) (Nat.le_of_ble_eq_true rfl) (Nat.le_of_ble_eq_true rfl) ?_
          rintro _ ⟨S2, hS2, rfl⟩
          refine g_vret dX5_begin_39 rfl ⟨_, rfl, rfl, ?_⟩
          first | exact absurd (mS_same S 28 0 0) c31 | exact absurd ((mS_same S 28 0 1).symm.trans c31) (by decide) | exact absurd ((mS_same S 28 0 2).symm.trans c31) (by decide) | exact ⟨⟨fun z => absurd z (Int32.not_lt.mpr c2), fun _ z => absurd z (fun z => z.elim c10 (fun y => y c16)), fun _ _ _ => (by rw [mS_ne (by decide), mS_ne (by decide), hS2.2.2.1 0 (by decide), man1_0, mS_same])⟩, RI_new c2 c16 hS2⟩ | exact ⟨⟨fun _ => mS_same _ _ _ _, fun z => absurd (Int32.not_le.mp c2) z, fun z => absurd (Int32.not_le.mp c2) z⟩, h.th _⟩ | exact ⟨⟨fun z => absurd z (Int32.not_lt.mpr c2), fun _ _ => mS_same _ _ _ _, fun _ z => absurd c10 z⟩, h.th _⟩ | exact ⟨⟨fun z => absurd z (Int32.not_lt.mpr c2), fun _ _ => mS_same _ _ _ _, fun _ _ z => absurd z c16⟩, h.th _⟩
      · refine g_iconst (v := 2) dX5_begin_19 (by decide) ?_
        refine g_goto (tgt := 24) dX5_begin_20 (by decide) ?_
        refine p_put dX5_begin_24 fpX5_75 rfl (Nat.le_of_ble_eq_true rfl) (fun _ => rfl) (fun _ => rfl) (by with_reducible first | exact wS_28_0 _ _ _ _) ?_
        refine g_aload_n dX5_begin_27 rfl rfl ?_
        refine g_get dX5_begin_28 flX5_75 rfl rfl ?_
        refine g_if_ne (tgt := 39) dX5_begin_31 (by decide) (fun c31 => ?_) (fun c31 => ?_)
        · refine g_vret dX5_begin_39 rfl ⟨_, rfl, rfl, ?_⟩
          first | exact absurd (mS_same S 28 0 0) c31 | exact absurd ((mS_same S 28 0 1).symm.trans c31) (by decide) | exact absurd ((mS_same S 28 0 2).symm.trans c31) (by decide) | exact ⟨⟨fun z => absurd z (Int32.not_lt.mpr c2), fun _ z => absurd z (fun z => z.elim c10 (fun y => y c16)), fun _ _ _ => (by rw [mS_ne (by decide), mS_ne (by decide), hS2.2.2.1 0 (by decide), man1_0, mS_same])⟩, RI_new c2 c16 hS2⟩ | exact ⟨⟨fun _ => mS_same _ _ _ _, fun z => absurd (Int32.not_le.mp c2) z, fun z => absurd (Int32.not_le.mp c2) z⟩, h.th _⟩ | exact ⟨⟨fun z => absurd z (Int32.not_lt.mpr c2), fun _ _ => mS_same _ _ _ _, fun _ z => absurd c10 z⟩, h.th _⟩ | exact ⟨⟨fun z => absurd z (Int32.not_lt.mpr c2), fun _ _ => mS_same _ _ _ _, fun _ _ z => absurd z c16⟩, h.th _⟩
        · refine g_aload_n dX5_begin_34 rfl rfl ?_
          refine g_iload_n dX5_begin_35 rfl rfl ?_
          refine cV10 (fun _ _ => rfl) dX5_begin_36 mlX5_71 imX5_anew seX5_anew rfl rfl (m_anew _ _) (by decide) (Nat.le_of_ble_eq_true rfl) (Nat.le_of_ble_eq_true rfl) (Nat.le_of_ble_eq_true rfl) ?_
          rintro _ ⟨S2, hS2, rfl⟩
          refine g_vret dX5_begin_39 rfl ⟨_, rfl, rfl, ?_⟩
          first | exact absurd (mS_same S 28 0 0) c31 | exact absurd ((mS_same S 28 0 1).symm.trans c31) (by decide) | exact absurd ((mS_same S 28 0 2).symm.trans c31) (by decide) | exact ⟨⟨fun z => absurd z (Int32.not_lt.mpr c2), fun _ z => absurd z (fun z => z.elim c10 (fun y => y c16)), fun _ _ _ => (by rw [mS_ne (by decide), mS_ne (by decide), hS2.2.2.1 0 (by decide), man1_0, mS_same])⟩, RI_new c2 c16 hS2⟩ | exact ⟨⟨fun _ => mS_same _ _ _ _, fun z => absurd (Int32.not_le.mp c2) z, fun z => absurd (Int32.not_le.mp c2) z⟩, h.th _⟩ | exact ⟨⟨fun z => absurd z (Int32.not_lt.mpr c2), fun _ _ => mS_same _ _ _ _, fun _ z => absurd c10 z⟩, h.th _⟩ | exact ⟨⟨fun z => absurd z (Int32.not_lt.mpr c2), fun _ _ => mS_same _ _ _ _, fun _ _ z => absurd z c16⟩, h.th _⟩
  · refine g_iconst (v := 1) dX5_begin_5 (by decide) ?_
    refine g_goto (tgt := 24) dX5_begin_6 (by decide) ?_
    refine p_put dX5_begin_24 fpX5_75 rfl (Nat.le_of_ble_eq_true rfl) (fun _ => rfl) (fun _ => rfl) (by with_reducible first | exact wS_28_0 _ _ _ _) ?_
    refine g_aload_n dX5_begin_27 rfl rfl ?_
    refine g_get dX5_begin_28 flX5_75 rfl rfl ?_
    refine g_if_ne (tgt := 39) dX5_begin_31 (by decide) (fun c31 => ?_) (fun c31 => ?_)
    · refine g_vret dX5_begin_39 rfl ⟨_, rfl, rfl, ?_⟩
      first | exact absurd (mS_same S 28 0 0) c31 | exact absurd ((mS_same S 28 0 1).symm.trans c31) (by decide) | exact absurd ((mS_same S 28 0 2).symm.trans c31) (by decide) | exact ⟨⟨fun z => absurd z (Int32.not_lt.mpr c2), fun _ z => absurd z (fun z => z.elim c10 (fun y => y c16)), fun _ _ _ => (by rw [mS_ne (by decide), mS_ne (by decide), hS2.2.2.1 0 (by decide), man1_0, mS_same])⟩, RI_new c2 c16 hS2⟩ | exact ⟨⟨fun _ => mS_same _ _ _ _, fun z => absurd (Int32.not_le.mp c2) z, fun z => absurd (Int32.not_le.mp c2) z⟩, h.th _⟩ | exact ⟨⟨fun z => absurd z (Int32.not_lt.mpr c2), fun _ _ => mS_same _ _ _ _, fun _ z => absurd c10 z⟩, h.th _⟩ | exact ⟨⟨fun z => absurd z (Int32.not_lt.mpr c2), fun _ _ => mS_same _ _ _ _, fun _ _ z => absurd z c16⟩, h.th _⟩
    · refine g_aload_n dX5_begin_34 rfl rfl ?_
      refine g_iload_n dX5_begin_35 rfl rfl ?_
      refine cV10 (fun _ _ => rfl) dX5_begin_36 mlX5_71 imX5_anew seX5_anew rfl rfl (m_anew _ _) (by decide) (Nat.le_of_ble_eq_true rfl) (Nat.le_of_ble_eq_true rfl) (Nat.le_of_ble_eq_true rfl) ?_
      rintro _ ⟨S2, hS2, rfl⟩
      refine g_vret dX5_begin_39 rfl ⟨_, rfl, rfl, ?_⟩
      first | exact absurd (mS_same S 28 0 0) c31 | exact absurd ((mS_same S 28 0 1).symm.trans c31) (by decide) | exact absurd ((mS_same S 28 0 2).symm.trans c31) (by decide) | exact ⟨⟨fun z => absurd z (Int32.not_lt.mpr c2), fun _ z => absurd z (fun z => z.elim c10 (fun y => y c16)), fun _ _ _ => (by rw [mS_ne (by decide), mS_ne (by decide), hS2.2.2.1 0 (by decide), man1_0, mS_same])⟩, RI_new c2 c16 hS2⟩ | exact ⟨⟨fun _ => mS_same _ _ _ _, fun z => absurd (Int32.not_le.mp c2) z, fun z => absurd (Int32.not_le.mp c2) z⟩, h.th _⟩ | exact ⟨⟨fun z => absurd z (Int32.not_lt.mpr c2), fun _ _ => mS_same _ _ _ _, fun _ z => absurd c10 z⟩, h.th _⟩ | exact ⟨⟨fun z => absurd z (Int32.not_lt.mpr c2), fun _ _ => mS_same _ _ _ _, fun _ _ z => absurd z c16⟩, h.th _⟩
end
