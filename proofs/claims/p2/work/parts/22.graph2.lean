section
variable {τ : gW}
def nFr (S : gS) : Prop := S.1 6 3 ≤ 0 ∧ (∀ j, j < 64 → S.2.2 5 j = 0) ∧ ¬ S.1 4 6 ≤ 0
def nI2 (S0 S : gS) (i : Nat) : Prop := (Cl S0 S ∧ S.1 6 = S0.1 6 ∧ S.1 4 = S0.1 4 ∧ S.2.2 = S0.2.2) ∧ (nFr S0 → (i = 0 → S.1 24 3 = 0 ∧ S.2.1 27 0 = 0) ∧ (0 < i → S.1 24 3 = 1 ∧ S.2.1 25 0 = 0))
theorem nI2.fr {S0 S : gS} {i : Nat} (h : nI2 S0 S i) (f : nFr S0) : nFr S := ⟨by rw [h.1.2.1]; exact f.1, fun j hj => by rw [h.1.2.2.2]; exact f.2.1 j hj, by rw [h.1.2.2.1]; exact f.2.2⟩
theorem vin8 {i : Nat} (h : i < 8) : vp_in (nI i) 8 := vp_in_nI h (by decide)
theorem zb (S : gS) (a k : Nat) (f : Nat → Int32) (v : Int32) : (mA S a (upd f k v)).2.1 a k = v := by
  have : (mA S a (upd f k v)).2.1 a = upd f k v := by simp [mA]
  rw [this, pk_us]
theorem nc_A {S0 S : gS} {i : Nat} {nn : Int32} (g : Nat → Int32) (hi : i < 8) (hS : nI2 S0 S i) (hn : nFr S0 → (i = 0 → nn = -1) ∧ (0 < i → nn = 0)) (h1 : ¬ nn = -1) : nI2 S0 (mA (mA S 26 g) 25 (upd ((mA S 26 g).2.1 25) (nI i).toNatClampNeg nn)) (i + 1) := by
  refine ⟨hS.1, fun f => ⟨fun z => absurd z (by omega), fun _ => ?_⟩⟩
  have hi0 : 0 < i := Nat.pos_of_ne_zero fun z => h1 ((hn f).1 z)
  obtain ⟨h2, h3⟩ := (hS.2 f).2 hi0
  refine ⟨h2, ?_⟩
  have e : (mA (mA S 26 g) 25 (upd ((mA S 26 g).2.1 25) (nI i).toNatClampNeg nn)).2.1 25 = upd (S.2.1 25) (nI i).toNatClampNeg nn := by simp [mA]
  rw [e, nI_clamp (by omega), pk_un (by omega)]
  exact h3
theorem nc_B {S0 S : gS} {i : Nat} {nn tl x : Int32} (g f : Nat → Int32) (hi : i < 8) (hS : nI2 S0 S i) (hn : nFr S0 → (i = 0 → nn = -1) ∧ (0 < i → nn = 0)) (h1 : nn = -1) (hx : x = S.1 24 3) (ht : ¬ S.1 4 6 ≤ 0 → S.2.1 27 0 = 0 → tl = 0) : nI2 S0 (mA (mS (mA (mA S 26 g) 27 f) 24 3 (x + 1)) 25 (upd ((mS (mA (mA S 26 g) 27 f) 24 3 (x + 1)).2.1 25) (nI i).toNatClampNeg tl)) (i + 1) := by
  obtain ⟨⟨k1, k2, k3, k4⟩, k5⟩ := hS
  have e1 : (mS (mA (mA S 26 g) 27 f) 24 3 (x + 1)).1 6 = S.1 6 := by funext b; exact mS_ne (fun z => by omega)
  have e2 : (mS (mA (mA S 26 g) 27 f) 24 3 (x + 1)).1 4 = S.1 4 := by funext b; exact mS_ne (fun z => by omega)
  refine ⟨⟨Cl.s (Cl.a (Cl.a k1 (by decide)) (by decide)) (by decide) (by decide), e1.trans k2, e2.trans k3, k4⟩, fun fr => ⟨fun z => absurd z (by omega), fun _ => ?_⟩⟩
  have hi0 : i = 0 := by
    refine Classical.byContradiction fun z => ?_
    have := (hn fr).2 (by omega)
    rw [h1] at this
    exact absurd this (by decide)
  obtain ⟨h2, h3⟩ := (k5 fr).1 hi0
  refine ⟨?_, ?_⟩
  · show (mS (mA (mA S 26 g) 27 f) 24 3 (x + 1)).1 24 3 = 1
    rw [mS_same, hx, h2]; rfl
  · rw [hi0]
    have : tl = 0 := ht (by rw [k3]; exact fr.2.2) h3
    rw [this]
    have e : ∀ (T : gS) (F : Nat → Int32), (mA T 25 F).2.1 25 = F := fun T F => by simp [mA]
    rw [e]
    rfl
set_option maxRecDepth 100000 in
set_option maxHeartbeats 4000000 in
theorem l_num46 (S0 S : gS) (i : Nat) (nn : Int32) (hi : i < 8) (hS : nI2 S0 S i) (hn : nFr S0 → (i = 0 → nn = -1) ∧ (0 < i → nn = 0)) (kk : ∀ (S1 : gS) (l3 : Option Value), nI2 S0 S1 (i + 1) → G MX3_numberChunks (4, 115) 18 [some (.ref 24), some (.ref 4), some (.int (nI (i + 1))), l3] [] (wOf τ S1) 0 0 (gN (wOf τ) fun v S' => (∃ r : Int32, v = .int r ∧ (r = 0 ∨ r = 1) ∧ (nFr S0 → r = 1 ∧ S'.1 24 3 = 1)) ∧ Cl S0 S' ∧ S'.1 4 = S0.1 4)) : G MX3_numberChunks (4, 115) 46 [some (.ref 24), some (.ref 4), some (.int (nI i)), some (.int nn)] [] (wOf τ S) 0 0 (gN (wOf τ) fun v S' => (∃ r : Int32, v = .int r ∧ (r = 0 ∨ r = 1) ∧ (nFr S0 → r = 1 ∧ S'.1 24 3 = 1)) ∧ Cl S0 S' ∧ S'.1 4 = S0.1 4) := by
  refine g_aload_n dX3_numberChunks_46 rfl rfl ?_
  refine g_get dX3_numberChunks_47 flX3_15 rfl rfl ?_
  refine g_iload_n dX3_numberChunks_50 rfl rfl ?_
  refine g_iload_n dX3_numberChunks_51 rfl rfl ?_
  refine g_iconst (v := (-1)) dX3_numberChunks_52 (by decide) ?_
  refine g_icmp_ne (tgt := 60) dX3_numberChunks_53 (by decide) (fun c53 => ?_) (fun c53 => ?_)
  · refine g_iconst (v := 0) dX3_numberChunks_60 (by decide) ?_
    refine p_zast dX3_numberChunks_61 rfl (vin8 hi) (by with_reducible first | exact wA_25 _ _ _ | exact wA_26 _ _ _) ?_
    refine g_aload_n dX3_numberChunks_62 rfl rfl ?_
    refine g_get dX3_numberChunks_63 flX3_15 rfl rfl ?_
    refine g_iload_n dX3_numberChunks_66 rfl rfl ?_
    refine g_zald dX3_numberChunks_67 rfl (vin8 hi) ?_
    refine g_if_eq (tgt := 90) dX3_numberChunks_68 (by decide) (fun c68 => ?_) (fun c68 => ?_)
    · refine g_iload_n dX3_numberChunks_90 rfl rfl ?_
      refine g_iconst (v := (-1)) dX3_numberChunks_91 (by decide) ?_
      refine g_icmp_ne (tgt := 97) dX3_numberChunks_92 (by decide) (fun c92 => ?_) (fun c92 => ?_)
      · refine g_aload_n dX3_numberChunks_97 rfl rfl ?_
        refine g_get dX3_numberChunks_98 flX3_9 rfl rfl ?_
        refine g_iload_n dX3_numberChunks_101 rfl rfl ?_
        refine g_iload_n dX3_numberChunks_102 rfl rfl ?_
        refine p_iast dX3_numberChunks_103 rfl (vin8 hi) (by with_reducible first | exact wA_25 _ _ _ | exact wA_26 _ _ _) ?_
        refine g_iinc dX3_numberChunks_104 rfl (by decide) (by first | exact gi_1 _ | exact gi_p _) ?_
        refine g_goto (tgt := 18) dX3_numberChunks_107 (by decide) ?_
        first | exact kk _ _ (nc_A _ hi hS hn c53) | exact kk _ _ (nc_B _ _ hi hS hn c53 rfl htl) | (rw [zb] at c68; exact absurd c68 (by decide))
      · refine g_iconst (v := 0) dX3_numberChunks_95 (by decide) ?_
        refine g_zret dX3_numberChunks_96 rfl (by first | rfl | assumption) ⟨_, _, rfl, rfl, ?_⟩
        first | exact absurd c92 c53 | (rw [zb] at c68; exact absurd c68 (by decide)) | exact ⟨⟨_, rfl, Or.inl rfl, fun fr => absurd c92 (by rw [htl (by rw [hS.1.2.2.1]; exact fr.2.2) (((hS.2 fr).1 (Classical.byContradiction fun z => absurd (c53.symm.trans ((hn fr).2 (by omega))) (by decide))).2)]; decide)⟩, Cl.s (Cl.a (Cl.a hS.1.1 (by decide)) (by decide)) (by decide) (by decide), (funext fun b => mS_ne (fun z => by omega)).trans hS.1.2.2.1⟩
    · exact absurd (zb _ _ _ _ _) c68
  · refine g_iconst (v := 1) dX3_numberChunks_56 (by decide) ?_
    refine g_goto (tgt := 61) dX3_numberChunks_57 (by decide) ?_
    refine p_zast dX3_numberChunks_61 rfl (vin8 hi) (by with_reducible first | exact wA_25 _ _ _ | exact wA_26 _ _ _) ?_
    refine g_aload_n dX3_numberChunks_62 rfl rfl ?_
    refine g_get dX3_numberChunks_63 flX3_15 rfl rfl ?_
    refine g_iload_n dX3_numberChunks_66 rfl rfl ?_
    refine g_zald dX3_numberChunks_67 rfl (vin8 hi) ?_
    refine g_if_eq (tgt := 90) dX3_numberChunks_68 (by decide) (fun c68 => ?_) (fun c68 => ?_)
    · refine g_iload_n dX3_numberChunks_90 rfl rfl ?_
      refine g_iconst (v := (-1)) dX3_numberChunks_91 (by decide) ?_
      refine g_icmp_ne (tgt := 97) dX3_numberChunks_92 (by decide) (fun c92 => ?_) (fun c92 => ?_)
      · refine g_aload_n dX3_numberChunks_97 rfl rfl ?_
        refine g_get dX3_numberChunks_98 flX3_9 rfl rfl ?_
        refine g_iload_n dX3_numberChunks_101 rfl rfl ?_
        refine g_iload_n dX3_numberChunks_102 rfl rfl ?_
        refine p_iast dX3_numberChunks_103 rfl (vin8 hi) (by with_reducible first | exact wA_25 _ _ _ | exact wA_26 _ _ _) ?_
        refine g_iinc dX3_numberChunks_104 rfl (by decide) (by first | exact gi_1 _ | exact gi_p _) ?_
        refine g_goto (tgt := 18) dX3_numberChunks_107 (by decide) ?_
        first | exact kk _ _ (nc_A _ hi hS hn c53) | exact kk _ _ (nc_B _ _ hi hS hn c53 rfl htl) | (rw [zb] at c68; exact absurd c68 (by decide))
      · refine g_iconst (v := 0) dX3_numberChunks_95 (by decide) ?_
        refine g_zret dX3_numberChunks_96 rfl (by first | rfl | assumption) ⟨_, _, rfl, rfl, ?_⟩
        first | exact absurd c92 c53 | (rw [zb] at c68; exact absurd c68 (by decide)) | exact ⟨⟨_, rfl, Or.inl rfl, fun fr => absurd c92 (by rw [htl (by rw [hS.1.2.2.1]; exact fr.2.2) (((hS.2 fr).1 (Classical.byContradiction fun z => absurd (c53.symm.trans ((hn fr).2 (by omega))) (by decide))).2)]; decide)⟩, Cl.s (Cl.a (Cl.a hS.1.1 (by decide)) (by decide)) (by decide) (by decide), (funext fun b => mS_ne (fun z => by omega)).trans hS.1.2.2.1⟩
    · skip
      refine g_aload_n dX3_numberChunks_71 rfl rfl ?_
      refine g_aload_n dX3_numberChunks_72 rfl rfl ?_
      refine g_get dX3_numberChunks_73 flX3_45 rfl rfl ?_
      refine cV1N (fun _ _ => rfl) dX3_numberChunks_76 mlX3_48 imX3_takeLeast seX3_takeLeast rfl rfl (c_takeLeast _ _) (by decide) (Nat.le_of_ble_eq_true rfl) (Nat.le_of_ble_eq_true rfl) (Nat.le_of_ble_eq_true rfl) ?_
      rintro _ _ ⟨⟨tl, rfl, htl⟩, f, rfl⟩
      refine g_istore_n dX3_numberChunks_79 rfl (by decide) ?_
      refine g_aload_n dX3_numberChunks_80 rfl rfl ?_
      refine g_dup dX3_numberChunks_81 rfl ?_
      refine g_get dX3_numberChunks_82 flX3_22 rfl rfl ?_
      refine g_iconst (v := 1) dX3_numberChunks_85 (by decide) ?_
      refine g_iadd dX3_numberChunks_86 ?_
      refine p_put dX3_numberChunks_87 fpX3_22 rfl (Nat.le_of_ble_eq_true rfl) (fun _ => rfl) (fun _ => rfl) (by with_reducible first | exact wS_24_3 _ _ _) ?_
      refine g_iload_n dX3_numberChunks_90 rfl rfl ?_
      refine g_iconst (v := (-1)) dX3_numberChunks_91 (by decide) ?_
      refine g_icmp_ne (tgt := 97) dX3_numberChunks_92 (by decide) (fun c92 => ?_) (fun c92 => ?_)
      · refine g_aload_n dX3_numberChunks_97 rfl rfl ?_
        refine g_get dX3_numberChunks_98 flX3_9 rfl rfl ?_
        refine g_iload_n dX3_numberChunks_101 rfl rfl ?_
        refine g_iload_n dX3_numberChunks_102 rfl rfl ?_
        refine p_iast dX3_numberChunks_103 rfl (vin8 hi) (by with_reducible first | exact wA_25 _ _ _ | exact wA_26 _ _ _) ?_
        refine g_iinc dX3_numberChunks_104 rfl (by decide) (by first | exact gi_1 _ | exact gi_p _) ?_
        refine g_goto (tgt := 18) dX3_numberChunks_107 (by decide) ?_
        exact kk _ _ (nc_B _ _ hi hS hn c53 rfl htl)
      · refine g_iconst (v := 0) dX3_numberChunks_95 (by decide) ?_
        refine g_zret dX3_numberChunks_96 rfl (by first | rfl | assumption) ⟨_, _, rfl, rfl, ?_⟩
        refine ⟨⟨_, rfl, Or.inl rfl, fun fr => absurd c92 ?_⟩, Cl.s (Cl.a (Cl.a hS.1.1 (by decide)) (by decide)) (by decide) (by decide), (funext fun b => mS_ne (fun z => by omega)).trans hS.1.2.2.1⟩
        have hi0 : i = 0 := Classical.byContradiction fun z => absurd (c53.symm.trans ((hn fr).2 (by omega))) (by decide)
        have : tl = 0 := htl (by show ¬ S.1 4 6 ≤ 0; rw [hS.1.2.2.1]; exact fr.2.2) ((hS.2 fr).1 hi0).2
        rw [this]; decide
set_option maxRecDepth 100000 in
set_option maxHeartbeats 4000000 in
theorem l_num (S0 : gS) : ∀ (m i : Nat) (l3 : Option Value) (S : gS), i + m = 8 → nI2 S0 S i → G MX3_numberChunks (4, 115) 18 [some (.ref 24), some (.ref 4), some (.int (nI i)), l3] [] (wOf τ S) 0 0 (gN (wOf τ) fun v S' => (∃ r : Int32, v = .int r ∧ (r = 0 ∨ r = 1) ∧ (nFr S0 → r = 1 ∧ S'.1 24 3 = 1)) ∧ Cl S0 S' ∧ S'.1 4 = S0.1 4) := by
  intro m
  induction m with
  | zero =>
    intro i l3 S hi hS
    obtain rfl : i = 8 := by omega
    refine g_iload_n dX3_numberChunks_18 rfl rfl ?_
    refine g_bipush (v := 8) dX3_numberChunks_19 (by decide) ?_
    refine g_icmp_ge (tgt := 110) dX3_numberChunks_21 (by decide) (fun c21 => ?_) (fun c21 => ?_)
    · refine g_iconst (v := 1) dX3_numberChunks_110 (by decide) ?_
      refine g_zret dX3_numberChunks_111 rfl (by first | rfl | assumption) ⟨_, _, rfl, rfl, ?_⟩
      exact ⟨⟨_, rfl, Or.inr rfl, fun f => ⟨rfl, ((hS.2 f).2 (by decide)).1⟩⟩, hS.1.1, hS.1.2.2.1⟩
    · exact absurd (show (8 : Int32) ≤ nI 8 by decide) c21
  | succ m ih =>
    intro i l3 S hi hS
    have k9 : ∀ (S1 : gS) (l3 : Option Value), nI2 S0 S1 (i + 1) → G MX3_numberChunks (4, 115) 18 [some (.ref 24), some (.ref 4), some (.int (nI (i + 1))), l3] [] (wOf τ S1) 0 0 (gN (wOf τ) fun v S' => (∃ r : Int32, v = .int r ∧ (r = 0 ∨ r = 1) ∧ (nFr S0 → r = 1 ∧ S'.1 24 3 = 1)) ∧ Cl S0 S' ∧ S'.1 4 = S0.1 4) := fun S1 l3 h => ih (i + 1) l3 S1 (by omega) h
    refine g_iload_n dX3_numberChunks_18 rfl rfl ?_
    refine g_bipush (v := 8) dX3_numberChunks_19 (by decide) ?_
    refine g_icmp_ge (tgt := 110) dX3_numberChunks_21 (by decide) (fun c21 => ?_) (fun c21 => ?_)
    · exact absurd c21 (nI_ge (b := 8) (by omega) (by decide))
    · refine g_aload_n dX3_numberChunks_24 rfl rfl ?_
      refine g_get dX3_numberChunks_25 flX3_26 rfl rfl ?_
      refine g_aload_n dX3_numberChunks_28 rfl rfl ?_
      refine g_iload_n dX3_numberChunks_29 rfl rfl ?_
      refine cV2N (fun _ _ => rfl) dX3_numberChunks_30 mlX3_38 imX0_namedAlike seX0_namedAlike rfl rfl (c_namedAlike _ _) (by decide) (Nat.le_of_ble_eq_true rfl) (Nat.le_of_ble_eq_true rfl) (Nat.le_of_ble_eq_true rfl) ?_
      rintro _ _ ⟨⟨na, rfl, hna⟩, rfl⟩
      refine g_istore_n dX3_numberChunks_33 rfl (by decide) ?_
      refine g_iload_n dX3_numberChunks_34 rfl rfl ?_
      refine g_iconst (v := (-1)) dX3_numberChunks_35 (by decide) ?_
      refine g_icmp_ne (tgt := 46) dX3_numberChunks_36 (by decide) (fun c36 => ?_) (fun c36 => ?_)
      · first | exact l_num46 S0 _ i _ (by omega) hS (fun f => absurd (hna (by rw [hS.1.2.1]; exact f.1)) c36) k9 | exact l_num46 S0 _ i _ (by omega) hS (fun f => ⟨fun z => hab0 (by rw [z]; decide), fun z => (hab1 (fun y => absurd y (nI_ge (b := i) (a := 0) z (by omega))) (hS.fr f).2.1).trans ((hS.2 f).2 z).2⟩) k9
      · refine g_aload_n dX3_numberChunks_39 rfl rfl ?_
        refine g_aload_n dX3_numberChunks_40 rfl rfl ?_
        refine g_iload_n dX3_numberChunks_41 rfl rfl ?_
        refine cV2N (fun _ _ => rfl) dX3_numberChunks_42 mlX3_42 imX3_alikeBefore seX3_alikeBefore rfl rfl (c_alikeBefore _ _) (by decide) (Nat.le_of_ble_eq_true rfl) (Nat.le_of_ble_eq_true rfl) (Nat.le_of_ble_eq_true rfl) ?_
        rintro _ _ ⟨⟨ab, rfl, hab0, hab1⟩, rfl⟩
        refine g_istore_n dX3_numberChunks_45 rfl (by decide) ?_
        first | exact l_num46 S0 _ i _ (by omega) hS (fun f => absurd (hna (by rw [hS.1.2.1]; exact f.1)) c36) k9 | exact l_num46 S0 _ i _ (by omega) hS (fun f => ⟨fun z => hab0 (by rw [z]; decide), fun z => (hab1 (fun y => absurd y (nI_ge (b := i) (a := 0) z (by omega))) (hS.fr f).2.1).trans ((hS.2 f).2 z).2⟩) k9
set_option maxRecDepth 100000 in
set_option maxHeartbeats 4000000 in
theorem c_numberChunks (S : gS) : gCt MX3_numberChunks (4, 115) 0 0 [.ref 24, .ref 4] (wOf τ S) (gN (wOf τ) fun v S' => (∃ r : Int32, v = .int r ∧ (r = 0 ∨ r = 1) ∧ (nFr S → r = 1 ∧ S'.1 24 3 = 1)) ∧ Cl S S' ∧ S'.1 4 = S.1 4) := by
  refine gCt.of (ls := [some (.ref 24), some (.ref 4), none, none]) 2 (by decide) rfl (Nat.le_of_ble_eq_true rfl) ?_
  refine g_aload_n dX3_numberChunks_0 rfl rfl ?_
  refine g_iconst (v := 0) dX3_numberChunks_1 (by decide) ?_
  refine p_put dX3_numberChunks_2 fpX3_22 rfl (Nat.le_of_ble_eq_true rfl) (fun _ => rfl) (fun _ => rfl) (by with_reducible first | exact wS_24_3 _ _ _) ?_
  refine g_aload_n dX3_numberChunks_5 rfl rfl ?_
  refine g_get dX3_numberChunks_6 flX3_26 rfl rfl ?_
  refine g_aload_n dX3_numberChunks_9 rfl rfl ?_
  refine g_get dX3_numberChunks_10 flX3_19 rfl rfl ?_
  refine cV10 (fun _ _ => rfl) dX3_numberChunks_13 mlX3_32 imX0_markNamed seX0_markNamed rfl rfl (c_markNamed _) (by decide) (Nat.le_of_ble_eq_true rfl) (Nat.le_of_ble_eq_true rfl) (Nat.le_of_ble_eq_true rfl) ?_
  rintro _ ⟨f, rfl, hf⟩
  refine g_iconst (v := 0) dX3_numberChunks_16 (by decide) ?_
  refine g_istore_n dX3_numberChunks_17 rfl (by decide) ?_
  exact l_num S 8 0 _ _ rfl ⟨⟨Cl.a (k := 27) (Cl.s (k := 24) (j := 3) (v := 0) (Cl.rf S) (by decide) (by decide)) (by decide), funext fun b => mS_ne (S := S) (k := 24) (j := 3) (v := 0) (a := 6) (b := b) (fun z => by omega), funext fun b => mS_ne (S := S) (k := 24) (j := 3) (v := 0) (a := 4) (b := b) (fun z => by omega), rfl⟩, fun f9 => ⟨fun _ => ⟨mS_same S 24 3 0, (hf (by rw [mS_ne (by decide)]; exact f9.1) 0 (by decide))⟩, fun z => absurd z (by decide)⟩⟩
set_option maxRecDepth 100000 in
set_option maxHeartbeats 4000000 in
theorem l_readLog4 (ln rm en : Int32) : ∀ (m i : Nat) (S : gS), i + m = 2000 → G MX2_readLog (5, 145) 14 [some (.ref 4), some (.ref 1), some (.int ln), some (.int rm), some (.int en), some (.int (nI i))] [] (wOf τ S) 0 0 (gN (wOf τ) fun v S' => (∃ r : Int32, v = .int r ∧ (ln ≤ S.1 4 11 → r = -1 ∧ S' = S)) ∧ Cl S S') := by
  intro m
  induction m with
  | zero =>
    intro i S hi
    obtain rfl : i = 2000 := by omega
    refine g_iload dX2_readLog_14 rfl ?_
    refine g_sipush (v := 2000) dX2_readLog_16 (by decide) ?_
    refine g_icmp_ge (tgt := 70) dX2_readLog_19 (by decide) (fun c19 => ?_) (fun c19 => ?_)
    · refine g_iconst (v := (-1)) dX2_readLog_70 (by decide) ?_
      refine g_iret dX2_readLog_71 rfl ⟨_, _, rfl, rfl, ?_⟩
      exact ⟨⟨_, rfl, fun _ => ⟨rfl, rfl⟩⟩, Cl.rf _⟩
    · exact absurd (show (2000 : Int32) ≤ nI 2000 by decide) c19
  | succ m ih =>
    intro i S hi
    refine g_iload dX2_readLog_14 rfl ?_
    refine g_sipush (v := 2000) dX2_readLog_16 (by decide) ?_
    refine g_icmp_ge (tgt := 70) dX2_readLog_19 (by decide) (fun c19 => ?_) (fun c19 => ?_)
    · refine g_iconst (v := (-1)) dX2_readLog_70 (by decide) ?_
      refine g_iret dX2_readLog_71 rfl ⟨_, _, rfl, rfl, ?_⟩
      first | exact ⟨⟨_, rfl, fun _ => ⟨rfl, rfl⟩⟩, Cl.rf _⟩ | exact ⟨⟨_, rfl, fun z => absurd z c27⟩, Cl.rf _⟩
    · refine g_aload_n dX2_readLog_22 rfl rfl ?_
      refine g_get dX2_readLog_23 flX2_61 rfl rfl ?_
      refine g_iload_n dX2_readLog_26 rfl rfl ?_
      refine g_icmp_ge (tgt := 70) dX2_readLog_27 (by decide) (fun c27 => ?_) (fun c27 => ?_)
      · refine g_iconst (v := (-1)) dX2_readLog_70 (by decide) ?_
        refine g_iret dX2_readLog_71 rfl ⟨_, _, rfl, rfl, ?_⟩
        first | exact ⟨⟨_, rfl, fun _ => ⟨rfl, rfl⟩⟩, Cl.rf _⟩ | exact ⟨⟨_, rfl, fun z => absurd z c27⟩, Cl.rf _⟩
      · refine g_aload_n dX2_readLog_30 rfl rfl ?_
        refine g_aload_n dX2_readLog_31 rfl rfl ?_
        refine g_bipush (v := 32) dX2_readLog_32 (by decide) ?_
        refine g_aload_n dX2_readLog_34 rfl rfl ?_
        refine g_get dX2_readLog_35 flX2_61 rfl rfl ?_
        refine g_iadd dX2_readLog_38 ?_
        refine g_iload dX2_readLog_39 rfl ?_
        refine cV3N (fun _ _ => rfl) dX2_readLog_41 mlX2_92 imX2_isRowRight seX2_isRowRight rfl rfl (c_isRowRight4 _ _ _) (by decide) (Nat.le_of_ble_eq_true rfl) (Nat.le_of_ble_eq_true rfl) (Nat.le_of_ble_eq_true rfl) ?_
        rintro _ _ ⟨⟨rr, rfl, -⟩, rfl⟩
        refine g_if_ne (tgt := 52) dX2_readLog_44 (by decide) (fun c44 => ?_) (fun c44 => ?_)
        · refine g_aload_n dX2_readLog_52 rfl rfl ?_
          refine g_aload_n dX2_readLog_53 rfl rfl ?_
          refine g_bipush (v := 32) dX2_readLog_54 (by decide) ?_
          refine g_aload_n dX2_readLog_56 rfl rfl ?_
          refine g_get dX2_readLog_57 flX2_61 rfl rfl ?_
          refine g_iadd dX2_readLog_60 ?_
          refine cV20 (fun _ _ => rfl) dX2_readLog_61 mlX2_96 imX2_takeRow seX2_takeRow rfl rfl (c_takeRow4 _ _) (by decide) (Nat.le_of_ble_eq_true rfl) (Nat.le_of_ble_eq_true rfl) (Nat.le_of_ble_eq_true rfl) ?_
          rintro S1 hS1
          refine g_iinc dX2_readLog_64 rfl (by decide) (by first | exact gi_1 _ | exact gi_p _) ?_
          refine g_goto (tgt := 14) dX2_readLog_67 (by decide) ?_
          refine GE.mono ?_ (ih (i + 1) _ (by omega))
          rintro r9 w9 ⟨v9, S9, e1, e2, ⟨r, e3, -⟩, e4⟩
          exact ⟨v9, S9, e1, e2, ⟨r, e3, fun z => absurd z c27⟩, hS1.1.tr e4⟩
        · refine g_aload_n dX2_readLog_47 rfl rfl ?_
          refine g_get dX2_readLog_48 flX2_58 rfl rfl ?_
          refine g_iret dX2_readLog_51 rfl ⟨_, _, rfl, rfl, ?_⟩
          first | exact ⟨⟨_, rfl, fun _ => ⟨rfl, rfl⟩⟩, Cl.rf _⟩ | exact ⟨⟨_, rfl, fun z => absurd z c27⟩, Cl.rf _⟩
set_option maxRecDepth 100000 in
set_option maxHeartbeats 4000000 in
theorem c_readLog4 (S : gS) (ln rm : Int32) : gCt MX2_readLog (5, 145) 0 0 [.ref 4, .ref 1, .int ln, .int rm] (wOf τ S) (gN (wOf τ) fun v S' => (∃ r : Int32, v = .int r ∧ (ln ≤ 0 → r = -1 ∧ S' = kfor4 rm S)) ∧ Cl S S') := by
  refine gCt.of (ls := [some (.ref 4), some (.ref 1), some (.int ln), some (.int rm), none, none]) 2 (by decide) rfl (Nat.le_of_ble_eq_true rfl) ?_
  refine g_aload_n dX2_readLog_0 rfl rfl ?_
  refine g_iload_n dX2_readLog_1 rfl rfl ?_
  refine cV10 (fun _ _ => rfl) dX2_readLog_2 mlX2_89 imX2_forget seX2_forget rfl rfl (c_knForget4 _ _) (by decide) (Nat.le_of_ble_eq_true rfl) (Nat.le_of_ble_eq_true rfl) (Nat.le_of_ble_eq_true rfl) ?_
  rintro _ rfl
  refine g_bipush (v := 32) dX2_readLog_5 (by decide) ?_
  refine g_iload_n dX2_readLog_7 rfl rfl ?_
  refine g_iadd dX2_readLog_8 ?_
  refine g_istore dX2_readLog_9 (by decide) ?_
  refine g_iconst (v := 0) dX2_readLog_11 (by decide) ?_
  refine g_istore dX2_readLog_12 (by decide) ?_
  refine GE.mono ?_ (l_readLog4 ln rm _ 2000 0 _ rfl)
  rintro r9 w9 ⟨v9, S9, e1, e2, ⟨r, e3, e5⟩, e4⟩
  refine ⟨v9, S9, e1, e2, ⟨r, e3, fun z => e5 (by unfold kfor4; rw [mS_same]; exact z)⟩, Cl.tr ?_ e4⟩
  unfold kfor4
  repeat' (with_reducible first | exact Cl.rf _ | assumption | apply Cl.a | apply Cl.s | apply Cl.l)
  all_goals decide
set_option maxRecDepth 100000 in
set_option maxHeartbeats 4000000 in
theorem l_readLog14 (ln rm en : Int32) : ∀ (m i : Nat) (S : gS), i + m = 2000 → G MX2_readLog (5, 145) 14 [some (.ref 14), some (.ref 1), some (.int ln), some (.int rm), some (.int en), some (.int (nI i))] [] (wOf τ S) 0 0 (gN (wOf τ) fun v S' => (∃ r : Int32, v = .int r ∧ (ln ≤ S.1 14 11 → r = -1 ∧ S' = S)) ∧ Cl S S') := by
  intro m
  induction m with
  | zero =>
    intro i S hi
    obtain rfl : i = 2000 := by omega
    refine g_iload dX2_readLog_14 rfl ?_
    refine g_sipush (v := 2000) dX2_readLog_16 (by decide) ?_
    refine g_icmp_ge (tgt := 70) dX2_readLog_19 (by decide) (fun c19 => ?_) (fun c19 => ?_)
    · refine g_iconst (v := (-1)) dX2_readLog_70 (by decide) ?_
      refine g_iret dX2_readLog_71 rfl ⟨_, _, rfl, rfl, ?_⟩
      exact ⟨⟨_, rfl, fun _ => ⟨rfl, rfl⟩⟩, Cl.rf _⟩
    · exact absurd (show (2000 : Int32) ≤ nI 2000 by decide) c19
  | succ m ih =>
    intro i S hi
    refine g_iload dX2_readLog_14 rfl ?_
    refine g_sipush (v := 2000) dX2_readLog_16 (by decide) ?_
    refine g_icmp_ge (tgt := 70) dX2_readLog_19 (by decide) (fun c19 => ?_) (fun c19 => ?_)
    · refine g_iconst (v := (-1)) dX2_readLog_70 (by decide) ?_
      refine g_iret dX2_readLog_71 rfl ⟨_, _, rfl, rfl, ?_⟩
      first | exact ⟨⟨_, rfl, fun _ => ⟨rfl, rfl⟩⟩, Cl.rf _⟩ | exact ⟨⟨_, rfl, fun z => absurd z c27⟩, Cl.rf _⟩
    · refine g_aload_n dX2_readLog_22 rfl rfl ?_
      refine g_get dX2_readLog_23 flX2_61 rfl rfl ?_
      refine g_iload_n dX2_readLog_26 rfl rfl ?_
      refine g_icmp_ge (tgt := 70) dX2_readLog_27 (by decide) (fun c27 => ?_) (fun c27 => ?_)
      · refine g_iconst (v := (-1)) dX2_readLog_70 (by decide) ?_
        refine g_iret dX2_readLog_71 rfl ⟨_, _, rfl, rfl, ?_⟩
        first | exact ⟨⟨_, rfl, fun _ => ⟨rfl, rfl⟩⟩, Cl.rf _⟩ | exact ⟨⟨_, rfl, fun z => absurd z c27⟩, Cl.rf _⟩
      · refine g_aload_n dX2_readLog_30 rfl rfl ?_
        refine g_aload_n dX2_readLog_31 rfl rfl ?_
        refine g_bipush (v := 32) dX2_readLog_32 (by decide) ?_
        refine g_aload_n dX2_readLog_34 rfl rfl ?_
        refine g_get dX2_readLog_35 flX2_61 rfl rfl ?_
        refine g_iadd dX2_readLog_38 ?_
        refine g_iload dX2_readLog_39 rfl ?_
        refine cV3N (fun _ _ => rfl) dX2_readLog_41 mlX2_92 imX2_isRowRight seX2_isRowRight rfl rfl (c_isRowRight14 _ _ _) (by decide) (Nat.le_of_ble_eq_true rfl) (Nat.le_of_ble_eq_true rfl) (Nat.le_of_ble_eq_true rfl) ?_
        rintro _ _ ⟨⟨rr, rfl, -⟩, rfl⟩
        refine g_if_ne (tgt := 52) dX2_readLog_44 (by decide) (fun c44 => ?_) (fun c44 => ?_)
        · refine g_aload_n dX2_readLog_52 rfl rfl ?_
          refine g_aload_n dX2_readLog_53 rfl rfl ?_
          refine g_bipush (v := 32) dX2_readLog_54 (by decide) ?_
          refine g_aload_n dX2_readLog_56 rfl rfl ?_
          refine g_get dX2_readLog_57 flX2_61 rfl rfl ?_
          refine g_iadd dX2_readLog_60 ?_
          refine cV20 (fun _ _ => rfl) dX2_readLog_61 mlX2_96 imX2_takeRow seX2_takeRow rfl rfl (c_takeRow14 _ _) (by decide) (Nat.le_of_ble_eq_true rfl) (Nat.le_of_ble_eq_true rfl) (Nat.le_of_ble_eq_true rfl) ?_
          rintro S1 hS1
          refine g_iinc dX2_readLog_64 rfl (by decide) (by first | exact gi_1 _ | exact gi_p _) ?_
          refine g_goto (tgt := 14) dX2_readLog_67 (by decide) ?_
          refine GE.mono ?_ (ih (i + 1) _ (by omega))
          rintro r9 w9 ⟨v9, S9, e1, e2, ⟨r, e3, -⟩, e4⟩
          exact ⟨v9, S9, e1, e2, ⟨r, e3, fun z => absurd z c27⟩, hS1.1.tr e4⟩
        · refine g_aload_n dX2_readLog_47 rfl rfl ?_
          refine g_get dX2_readLog_48 flX2_58 rfl rfl ?_
          refine g_iret dX2_readLog_51 rfl ⟨_, _, rfl, rfl, ?_⟩
          first | exact ⟨⟨_, rfl, fun _ => ⟨rfl, rfl⟩⟩, Cl.rf _⟩ | exact ⟨⟨_, rfl, fun z => absurd z c27⟩, Cl.rf _⟩
set_option maxRecDepth 100000 in
set_option maxHeartbeats 4000000 in
theorem c_readLog14 (S : gS) (ln rm : Int32) : gCt MX2_readLog (5, 145) 0 0 [.ref 14, .ref 1, .int ln, .int rm] (wOf τ S) (gN (wOf τ) fun v S' => (∃ r : Int32, v = .int r ∧ (ln ≤ 0 → r = -1 ∧ S' = kfor14 rm S)) ∧ Cl S S') := by
  refine gCt.of (ls := [some (.ref 14), some (.ref 1), some (.int ln), some (.int rm), none, none]) 2 (by decide) rfl (Nat.le_of_ble_eq_true rfl) ?_
  refine g_aload_n dX2_readLog_0 rfl rfl ?_
  refine g_iload_n dX2_readLog_1 rfl rfl ?_
  refine cV10 (fun _ _ => rfl) dX2_readLog_2 mlX2_89 imX2_forget seX2_forget rfl rfl (c_knForget14 _ _) (by decide) (Nat.le_of_ble_eq_true rfl) (Nat.le_of_ble_eq_true rfl) (Nat.le_of_ble_eq_true rfl) ?_
  rintro _ rfl
  refine g_bipush (v := 32) dX2_readLog_5 (by decide) ?_
  refine g_iload_n dX2_readLog_7 rfl rfl ?_
  refine g_iadd dX2_readLog_8 ?_
  refine g_istore dX2_readLog_9 (by decide) ?_
  refine g_iconst (v := 0) dX2_readLog_11 (by decide) ?_
  refine g_istore dX2_readLog_12 (by decide) ?_
  refine GE.mono ?_ (l_readLog14 ln rm _ 2000 0 _ rfl)
  rintro r9 w9 ⟨v9, S9, e1, e2, ⟨r, e3, e5⟩, e4⟩
  refine ⟨v9, S9, e1, e2, ⟨r, e3, fun z => e5 (by unfold kfor14; rw [mS_same]; exact z)⟩, Cl.tr ?_ e4⟩
  unfold kfor14
  repeat' (with_reducible first | exact Cl.rf _ | assumption | apply Cl.a | apply Cl.s | apply Cl.l)
  all_goals decide
def whead (pl : Int32) (S : gS) : gS :=
  let S0 := mS S 1 3 pl
  let S1 := dwrs (S0.1 0 4).toInt64 4 S0
  let S2 := dwrs (S1.1 4 11).toInt64 4 S1
  dwrs (dsum S2 (if Int32.ofNat 24032 < S2.1 1 3 then Int32.ofNat 24032 else S2.1 1 3) 24033 (if pl < 0 then 0 else pl) 1) 8 S2
theorem whead_Cl (pl : Int32) {S : gS} (h0 : ¬ S.1 1 2 < 0) : Cl S (whead pl S) := by
  unfold whead
  simp only
  have h1 : ¬ (mS S 1 3 pl).1 1 2 < 0 := by rw [mS_ne (by decide)]; exact h0
  exact Cl.tr (Cl.tr (Cl.tr (Cl.s (Cl.rf S) (by decide) (by decide)) (dwrs_Cl _ _ h1)) (dwrs_Cl _ _ (dwrs_pos _ _ h1))) (dwrs_Cl _ _ (dwrs_pos _ _ (dwrs_pos _ _ h1)))
theorem whead_k (pl : Int32) (S : gS) (a : Nat) (ha : a ≠ 1) : (whead pl S).1 a = S.1 a := by
  unfold whead
  simp only
  rw [dwrs_k _ _ ha, dwrs_k _ _ ha, dwrs_k _ _ ha]
  funext b
  exact mS_ne (fun z => ha z.1)
theorem whead_L (pl : Int32) (S : gS) : (whead pl S).2.2 = S.2.2 := by
  unfold whead
  simp only
  rw [dwrs_L, dwrs_L, dwrs_L]
  rfl
set_option maxRecDepth 100000 in
set_option maxHeartbeats 4000000 in
theorem c_writeHead (S : gS) (h0 : ¬ S.1 1 2 < 0) : gCt MX4_writeHead (3, 85) 0 0 [.ref 0] (wOf τ S) (g0 (wOf τ) fun S' => S' = whead (if S.1 0 4 &&& 1 = 1 then 16 else 0) S) := by
  refine gCt.of (ls := [some (.ref 0), none]) 1 (by decide) rfl (Nat.le_of_ble_eq_true rfl) ?_
  refine g_aload_n dX4_writeHead_0 rfl rfl ?_
  refine g_get dX4_writeHead_1 flX4_119 rfl rfl ?_
  refine g_iconst (v := 1) dX4_writeHead_4 (by decide) ?_
  refine g_iand dX4_writeHead_5 ?_
  refine g_iconst (v := 1) dX4_writeHead_6 (by decide) ?_
  refine g_icmp_ne (tgt := 15) dX4_writeHead_7 (by decide) (fun c7 => ?_) (fun c7 => ?_)
  · refine g_iconst (v := 0) dX4_writeHead_15 (by decide) ?_
    refine g_istore_n dX4_writeHead_16 rfl (by decide) ?_
    refine g_aload_n dX4_writeHead_17 rfl rfl ?_
    refine g_get dX4_writeHead_18 flX4_12 rfl rfl ?_
    refine g_iload_n dX4_writeHead_21 rfl rfl ?_
    refine cV10 (fun _ _ => rfl) dX4_writeHead_22 mlX4_244 imX1_goTo seX1_goTo rfl rfl (c_goTo _ _) (by decide) (Nat.le_of_ble_eq_true rfl) (Nat.le_of_ble_eq_true rfl) (Nat.le_of_ble_eq_true rfl) ?_
    rintro _ rfl
    refine g_aload_n dX4_writeHead_25 rfl rfl ?_
    refine g_get dX4_writeHead_26 flX4_12 rfl rfl ?_
    refine g_aload_n dX4_writeHead_29 rfl rfl ?_
    refine g_get dX4_writeHead_30 flX4_119 rfl rfl ?_
    refine g_i2l dX4_writeHead_33 ?_
    refine g_iconst (v := 4) dX4_writeHead_34 (by decide) ?_
    refine cV20 (fun _ _ => rfl) dX4_writeHead_35 mlX4_72 imX1_write seX1_write rfl rfl (c_write _ _ 4 (by decide) (by rw [mS_ne (by decide)]; exact h0)) (by decide) (Nat.le_of_ble_eq_true rfl) (Nat.le_of_ble_eq_true rfl) (Nat.le_of_ble_eq_true rfl) ?_
    rintro _ rfl
    refine g_aload_n dX4_writeHead_38 rfl rfl ?_
    refine g_get dX4_writeHead_39 flX4_12 rfl rfl ?_
    refine g_aload_n dX4_writeHead_42 rfl rfl ?_
    refine g_get dX4_writeHead_43 flX4_19 rfl rfl ?_
    refine g_get dX4_writeHead_46 flX4_160 rfl rfl ?_
    refine g_i2l dX4_writeHead_49 ?_
    refine g_iconst (v := 4) dX4_writeHead_50 (by decide) ?_
    refine cV20 (fun _ _ => rfl) dX4_writeHead_51 mlX4_72 imX1_write seX1_write rfl rfl (c_write _ _ 4 (by decide) (dwrs_pos _ _ (by rw [mS_ne (by decide)]; exact h0))) (by decide) (Nat.le_of_ble_eq_true rfl) (Nat.le_of_ble_eq_true rfl) (Nat.le_of_ble_eq_true rfl) ?_
    rintro _ rfl
    refine g_aload_n dX4_writeHead_54 rfl rfl ?_
    refine g_get dX4_writeHead_55 flX4_12 rfl rfl ?_
    refine g_aload_n dX4_writeHead_58 rfl rfl ?_
    refine g_get dX4_writeHead_59 flX4_12 rfl rfl ?_
    refine g_iload_n dX4_writeHead_62 rfl rfl ?_
    refine g_aload_n dX4_writeHead_63 rfl rfl ?_
    refine g_get dX4_writeHead_64 flX4_12 rfl rfl ?_
    refine g_get dX4_writeHead_67 flX4_250 rfl rfl ?_
    refine g_lconst (v := 1) dX4_writeHead_70 (by decide) ?_
    refine cV3N (fun _ _ => rfl) dX4_writeHead_71 mlX4_253 imX1_sum seX1_sum rfl rfl (c_sum _ _ _ _) (by decide) (Nat.le_of_ble_eq_true rfl) (Nat.le_of_ble_eq_true rfl) (Nat.le_of_ble_eq_true rfl) ?_
    rintro _ _ ⟨rfl, rfl⟩
    refine g_bipush (v := 8) dX4_writeHead_74 (by decide) ?_
    refine cV20 (fun _ _ => rfl) dX4_writeHead_76 mlX4_72 imX1_write seX1_write rfl rfl (c_write _ _ 8 (by decide) (dwrs_pos _ _ (dwrs_pos _ _ (by rw [mS_ne (by decide)]; exact h0)))) (by decide) (Nat.le_of_ble_eq_true rfl) (Nat.le_of_ble_eq_true rfl) (Nat.le_of_ble_eq_true rfl) ?_
    rintro _ rfl
    refine g_vret dX4_writeHead_79 rfl ⟨_, rfl, rfl, ?_⟩
    first | (rw [if_pos c7]; rfl) | (rw [if_neg c7]; rfl)
  · refine g_bipush (v := 16) dX4_writeHead_10 (by decide) ?_
    refine g_goto (tgt := 16) dX4_writeHead_12 (by decide) ?_
    refine g_istore_n dX4_writeHead_16 rfl (by decide) ?_
    refine g_aload_n dX4_writeHead_17 rfl rfl ?_
    refine g_get dX4_writeHead_18 flX4_12 rfl rfl ?_
    refine g_iload_n dX4_writeHead_21 rfl rfl ?_
    refine cV10 (fun _ _ => rfl) dX4_writeHead_22 mlX4_244 imX1_goTo seX1_goTo rfl rfl (c_goTo _ _) (by decide) (Nat.le_of_ble_eq_true rfl) (Nat.le_of_ble_eq_true rfl) (Nat.le_of_ble_eq_true rfl) ?_
    rintro _ rfl
    refine g_aload_n dX4_writeHead_25 rfl rfl ?_
    refine g_get dX4_writeHead_26 flX4_12 rfl rfl ?_
    refine g_aload_n dX4_writeHead_29 rfl rfl ?_
    refine g_get dX4_writeHead_30 flX4_119 rfl rfl ?_
    refine g_i2l dX4_writeHead_33 ?_
    refine g_iconst (v := 4) dX4_writeHead_34 (by decide) ?_
    refine cV20 (fun _ _ => rfl) dX4_writeHead_35 mlX4_72 imX1_write seX1_write rfl rfl (c_write _ _ 4 (by decide) (by rw [mS_ne (by decide)]; exact h0)) (by decide) (Nat.le_of_ble_eq_true rfl) (Nat.le_of_ble_eq_true rfl) (Nat.le_of_ble_eq_true rfl) ?_
    rintro _ rfl
    refine g_aload_n dX4_writeHead_38 rfl rfl ?_
    refine g_get dX4_writeHead_39 flX4_12 rfl rfl ?_
    refine g_aload_n dX4_writeHead_42 rfl rfl ?_
    refine g_get dX4_writeHead_43 flX4_19 rfl rfl ?_
    refine g_get dX4_writeHead_46 flX4_160 rfl rfl ?_
    refine g_i2l dX4_writeHead_49 ?_
    refine g_iconst (v := 4) dX4_writeHead_50 (by decide) ?_
    refine cV20 (fun _ _ => rfl) dX4_writeHead_51 mlX4_72 imX1_write seX1_write rfl rfl (c_write _ _ 4 (by decide) (dwrs_pos _ _ (by rw [mS_ne (by decide)]; exact h0))) (by decide) (Nat.le_of_ble_eq_true rfl) (Nat.le_of_ble_eq_true rfl) (Nat.le_of_ble_eq_true rfl) ?_
    rintro _ rfl
    refine g_aload_n dX4_writeHead_54 rfl rfl ?_
    refine g_get dX4_writeHead_55 flX4_12 rfl rfl ?_
    refine g_aload_n dX4_writeHead_58 rfl rfl ?_
    refine g_get dX4_writeHead_59 flX4_12 rfl rfl ?_
    refine g_iload_n dX4_writeHead_62 rfl rfl ?_
    refine g_aload_n dX4_writeHead_63 rfl rfl ?_
    refine g_get dX4_writeHead_64 flX4_12 rfl rfl ?_
    refine g_get dX4_writeHead_67 flX4_250 rfl rfl ?_
    refine g_lconst (v := 1) dX4_writeHead_70 (by decide) ?_
    refine cV3N (fun _ _ => rfl) dX4_writeHead_71 mlX4_253 imX1_sum seX1_sum rfl rfl (c_sum _ _ _ _) (by decide) (Nat.le_of_ble_eq_true rfl) (Nat.le_of_ble_eq_true rfl) (Nat.le_of_ble_eq_true rfl) ?_
    rintro _ _ ⟨rfl, rfl⟩
    refine g_bipush (v := 8) dX4_writeHead_74 (by decide) ?_
    refine cV20 (fun _ _ => rfl) dX4_writeHead_76 mlX4_72 imX1_write seX1_write rfl rfl (c_write _ _ 8 (by decide) (dwrs_pos _ _ (dwrs_pos _ _ (by rw [mS_ne (by decide)]; exact h0)))) (by decide) (Nat.le_of_ble_eq_true rfl) (Nat.le_of_ble_eq_true rfl) (Nat.le_of_ble_eq_true rfl) ?_
    rintro _ rfl
    refine g_vret dX4_writeHead_79 rfl ⟨_, rfl, rfl, ?_⟩
    first | (rw [if_pos c7]; rfl) | (rw [if_neg c7]; rfl)
set_option maxRecDepth 100000 in
set_option maxHeartbeats 4000000 in
theorem c_headToTake (S : gS) : gCt MX4_headToTake (3, 94) 0 0 [.ref 0] (wOf τ S) (gN (wOf τ) fun v S' => (∃ r : Int32, v = .int r ∧ (¬ hright S 0 = 0 → hright S 16 = 0 → r = 0)) ∧ S = S') := by
  refine gCt.of (ls := [some (.ref 0), none, none]) 2 (by decide) rfl (Nat.le_of_ble_eq_true rfl) ?_
  refine g_aload_n dX4_headToTake_0 rfl rfl ?_
  refine g_iconst (v := 0) dX4_headToTake_1 (by decide) ?_
  refine cV1N (fun _ _ => rfl) dX4_headToTake_2 mlX4_264 imX4_isHeadRight seX4_isHeadRight rfl rfl (c_isHeadRight _ _) (by decide) (Nat.le_of_ble_eq_true rfl) (Nat.le_of_ble_eq_true rfl) (Nat.le_of_ble_eq_true rfl) ?_
  rintro _ _ ⟨rfl, rfl⟩
  refine g_istore_n dX4_headToTake_5 rfl (by decide) ?_
  refine g_aload_n dX4_headToTake_6 rfl rfl ?_
  refine g_bipush (v := 16) dX4_headToTake_7 (by decide) ?_
  refine cV1N (fun _ _ => rfl) dX4_headToTake_9 mlX4_264 imX4_isHeadRight seX4_isHeadRight rfl rfl (c_isHeadRight _ _) (by decide) (Nat.le_of_ble_eq_true rfl) (Nat.le_of_ble_eq_true rfl) (Nat.le_of_ble_eq_true rfl) ?_
  rintro _ _ ⟨rfl, rfl⟩
  refine g_istore_n dX4_headToTake_12 rfl (by decide) ?_
  refine g_iload_n dX4_headToTake_13 rfl rfl ?_
  refine g_if_eq (tgt := 51) dX4_headToTake_14 (by decide) (fun c14 => ?_) (fun c14 => ?_)
  · refine g_iload_n dX4_headToTake_51 rfl rfl ?_
    refine g_if_eq (tgt := 57) dX4_headToTake_52 (by decide) (fun c52 => ?_) (fun c52 => ?_)
    · refine g_iload_n dX4_headToTake_57 rfl rfl ?_
      refine g_if_eq (tgt := 66) dX4_headToTake_58 (by decide) (fun c58 => ?_) (fun c58 => ?_)
      · refine g_iconst (v := (-1)) dX4_headToTake_66 (by decide) ?_
        refine g_iret dX4_headToTake_67 rfl ⟨_, _, rfl, rfl, ?_⟩
        first | exact ⟨⟨_, rfl, fun _ _ => rfl⟩, rfl⟩ | exact ⟨⟨_, rfl, fun _ z => absurd z c18⟩, rfl⟩ | exact ⟨⟨_, rfl, fun z _ => absurd c52 z⟩, rfl⟩
      · refine g_bipush (v := 16) dX4_headToTake_61 (by decide) ?_
        refine g_goto (tgt := 67) dX4_headToTake_63 (by decide) ?_
        refine g_iret dX4_headToTake_67 rfl ⟨_, _, rfl, rfl, ?_⟩
        first | exact ⟨⟨_, rfl, fun _ _ => rfl⟩, rfl⟩ | exact ⟨⟨_, rfl, fun _ z => absurd z c18⟩, rfl⟩ | exact ⟨⟨_, rfl, fun z _ => absurd c52 z⟩, rfl⟩
    · refine g_iconst (v := 0) dX4_headToTake_55 (by decide) ?_
      refine g_iret dX4_headToTake_56 rfl ⟨_, _, rfl, rfl, ?_⟩
      first | exact ⟨⟨_, rfl, fun _ _ => rfl⟩, rfl⟩ | exact ⟨⟨_, rfl, fun _ z => absurd z c18⟩, rfl⟩ | exact ⟨⟨_, rfl, fun z _ => absurd c52 z⟩, rfl⟩
  · refine g_iload_n dX4_headToTake_17 rfl rfl ?_
    refine g_if_eq (tgt := 51) dX4_headToTake_18 (by decide) (fun c18 => ?_) (fun c18 => ?_)
    · refine g_iload_n dX4_headToTake_51 rfl rfl ?_
      refine g_if_eq (tgt := 57) dX4_headToTake_52 (by decide) (fun c52 => ?_) (fun c52 => ?_)
      · refine g_iload_n dX4_headToTake_57 rfl rfl ?_
        refine g_if_eq (tgt := 66) dX4_headToTake_58 (by decide) (fun c58 => ?_) (fun c58 => ?_)
        · refine g_iconst (v := (-1)) dX4_headToTake_66 (by decide) ?_
          refine g_iret dX4_headToTake_67 rfl ⟨_, _, rfl, rfl, ?_⟩
          first | exact ⟨⟨_, rfl, fun _ _ => rfl⟩, rfl⟩ | exact ⟨⟨_, rfl, fun _ z => absurd z c18⟩, rfl⟩ | exact ⟨⟨_, rfl, fun z _ => absurd c52 z⟩, rfl⟩
        · refine g_bipush (v := 16) dX4_headToTake_61 (by decide) ?_
          refine g_goto (tgt := 67) dX4_headToTake_63 (by decide) ?_
          refine g_iret dX4_headToTake_67 rfl ⟨_, _, rfl, rfl, ?_⟩
          first | exact ⟨⟨_, rfl, fun _ _ => rfl⟩, rfl⟩ | exact ⟨⟨_, rfl, fun _ z => absurd z c18⟩, rfl⟩ | exact ⟨⟨_, rfl, fun z _ => absurd c52 z⟩, rfl⟩
      · refine g_iconst (v := 0) dX4_headToTake_55 (by decide) ?_
        refine g_iret dX4_headToTake_56 rfl ⟨_, _, rfl, rfl, ?_⟩
        first | exact ⟨⟨_, rfl, fun _ _ => rfl⟩, rfl⟩ | exact ⟨⟨_, rfl, fun _ z => absurd z c18⟩, rfl⟩ | exact ⟨⟨_, rfl, fun z _ => absurd c52 z⟩, rfl⟩
    · refine g_aload_n dX4_headToTake_21 rfl rfl ?_
      refine g_get dX4_headToTake_22 flX4_12 rfl rfl ?_
      refine g_bipush (v := 16) dX4_headToTake_25 (by decide) ?_
      refine g_iconst (v := 4) dX4_headToTake_27 (by decide) ?_
      refine cV2N (fun _ _ => rfl) dX4_headToTake_28 mlX4_135 imX1_number seX1_number rfl rfl (c_number _ _ 4 (by decide)) (by decide) (Nat.le_of_ble_eq_true rfl) (Nat.le_of_ble_eq_true rfl) (Nat.le_of_ble_eq_true rfl) ?_
      rintro _ _ ⟨rfl, rfl⟩
      refine g_aload_n dX4_headToTake_31 rfl rfl ?_
      refine g_get dX4_headToTake_32 flX4_12 rfl rfl ?_
      refine g_iconst (v := 0) dX4_headToTake_35 (by decide) ?_
      refine g_iconst (v := 4) dX4_headToTake_36 (by decide) ?_
      refine cV2N (fun _ _ => rfl) dX4_headToTake_37 mlX4_135 imX1_number seX1_number rfl rfl (c_number _ _ 4 (by decide)) (by decide) (Nat.le_of_ble_eq_true rfl) (Nat.le_of_ble_eq_true rfl) (Nat.le_of_ble_eq_true rfl) ?_
      rintro _ _ ⟨rfl, rfl⟩
      refine g_lcmp dX4_headToTake_40 ?_
      refine g_if_le (tgt := 49) dX4_headToTake_41 (by decide) (fun c41 => ?_) (fun c41 => ?_)
      · refine g_iconst (v := 0) dX4_headToTake_49 (by decide) ?_
        refine g_iret dX4_headToTake_50 rfl ⟨_, _, rfl, rfl, ?_⟩
        first | exact ⟨⟨_, rfl, fun _ _ => rfl⟩, rfl⟩ | exact ⟨⟨_, rfl, fun _ z => absurd z c18⟩, rfl⟩ | exact ⟨⟨_, rfl, fun z _ => absurd c52 z⟩, rfl⟩
      · refine g_bipush (v := 16) dX4_headToTake_44 (by decide) ?_
        refine g_goto (tgt := 50) dX4_headToTake_46 (by decide) ?_
        refine g_iret dX4_headToTake_50 rfl ⟨_, _, rfl, rfl, ?_⟩
        first | exact ⟨⟨_, rfl, fun _ _ => rfl⟩, rfl⟩ | exact ⟨⟨_, rfl, fun _ z => absurd z c18⟩, rfl⟩ | exact ⟨⟨_, rfl, fun z _ => absurd c52 z⟩, rfl⟩
set_option maxRecDepth 100000 in
set_option maxHeartbeats 4000000 in
theorem l_oneEdgeOn (S : gS) (x : Int32) (y : Int64) : ∀ (m i : Nat) (a : Int64), i + m = 64 → (x = -1 → (∀ j, j < 64 → S.2.2 5 j = 0) → a = 0) → G MX4_oneEdgeOn (3, 86) 6 [some (.ref 0), some (.int x), some (.long y), none, some (.long a), none, some (.int (nI i))] [] (wOf τ S) 0 0 (gN (wOf τ) fun v S' => (∃ r : Int64, v = .long r ∧ (x = -1 → (∀ j, j < 64 → S.2.2 5 j = 0) → r = 0)) ∧ S = S') := by
  intro m
  induction m with
  | zero =>
    intro i a hi ha
    obtain rfl : i = 64 := by omega
    refine g_iload dX4_oneEdgeOn_6 rfl ?_
    refine g_bipush (v := 64) dX4_oneEdgeOn_8 (by decide) ?_
    refine g_icmp_ge (tgt := 45) dX4_oneEdgeOn_10 (by decide) (fun c10 => ?_) (fun c10 => ?_)
    · refine g_lload dX4_oneEdgeOn_45 rfl ?_
      refine g_lret dX4_oneEdgeOn_47 rfl ⟨_, _, rfl, rfl, ?_⟩
      exact ⟨⟨_, rfl, ha⟩, rfl⟩
    · exact absurd (show (64 : Int32) ≤ nI 64 by decide) c10
  | succ m ih =>
    intro i a hi ha
    refine g_iload dX4_oneEdgeOn_6 rfl ?_
    refine g_bipush (v := 64) dX4_oneEdgeOn_8 (by decide) ?_
    refine g_icmp_ge (tgt := 45) dX4_oneEdgeOn_10 (by decide) (fun c10 => ?_) (fun c10 => ?_)
    · exact absurd c10 (nI_ge (b := 64) (by omega) (by decide))
    · refine g_lload_n dX4_oneEdgeOn_13 rfl rfl ?_
      refine g_iload dX4_oneEdgeOn_14 rfl ?_
      refine g_lushr dX4_oneEdgeOn_16 ?_
      refine g_lconst (v := 1) dX4_oneEdgeOn_17 (by decide) ?_
      refine g_land dX4_oneEdgeOn_18 ?_
      refine g_lconst (v := 0) dX4_oneEdgeOn_19 (by decide) ?_
      refine g_lcmp dX4_oneEdgeOn_20 ?_
      refine g_if_eq (tgt := 39) dX4_oneEdgeOn_21 (by decide) (fun c21 => ?_) (fun c21 => ?_)
      · refine g_iinc dX4_oneEdgeOn_39 rfl (by decide) (by first | exact gi_1 _ | exact gi_p _) ?_
        refine g_goto (tgt := 6) dX4_oneEdgeOn_42 (by decide) ?_
        first | exact ih (i + 1) _ (by omega) ha | exact ih (i + 1) _ (by omega) (fun h1 h2 => by rw [ha h1 h2, hef h1 h2]; rfl)
      · refine g_lload dX4_oneEdgeOn_24 rfl ?_
        refine g_aload_n dX4_oneEdgeOn_26 rfl rfl ?_
        refine g_get dX4_oneEdgeOn_27 flX4_19 rfl rfl ?_
        refine g_iload_n dX4_oneEdgeOn_30 rfl rfl ?_
        refine g_iload dX4_oneEdgeOn_31 rfl ?_
        refine cV2N (fun _ _ => rfl) dX4_oneEdgeOn_33 mlX4_186 imX2_edgesFrom seX2_edgesFrom rfl rfl (c_edgesFrom4 _ _ _) (by decide) (Nat.le_of_ble_eq_true rfl) (Nat.le_of_ble_eq_true rfl) (Nat.le_of_ble_eq_true rfl) ?_
        rintro _ _ ⟨⟨ef, rfl, hef⟩, rfl⟩
        refine g_lor dX4_oneEdgeOn_36 ?_
        refine g_lstore dX4_oneEdgeOn_37 (by decide) ?_
        refine g_iinc dX4_oneEdgeOn_39 rfl (by decide) (by first | exact gi_1 _ | exact gi_p _) ?_
        refine g_goto (tgt := 6) dX4_oneEdgeOn_42 (by decide) ?_
        first | exact ih (i + 1) _ (by omega) ha | exact ih (i + 1) _ (by omega) (fun h1 h2 => by rw [ha h1 h2, hef h1 h2]; rfl)
set_option maxRecDepth 100000 in
set_option maxHeartbeats 4000000 in
theorem c_oneEdgeOn (S : gS) (x : Int32) (y : Int64) : gCt MX4_oneEdgeOn (3, 86) 0 0 [.ref 0, .int x, .long y] (wOf τ S) (gN (wOf τ) fun v S' => (∃ r : Int64, v = .long r ∧ (x = -1 → (∀ j, j < 64 → S.2.2 5 j = 0) → r = 0)) ∧ S = S') := by
  refine gCt.of (ls := [some (.ref 0), some (.int x), some (.long y), none, none, none, none]) 3 (by decide) rfl (Nat.le_of_ble_eq_true rfl) ?_
  refine g_lconst (v := 0) dX4_oneEdgeOn_0 (by decide) ?_
  refine g_lstore dX4_oneEdgeOn_1 (by decide) ?_
  refine g_iconst (v := 0) dX4_oneEdgeOn_3 (by decide) ?_
  refine g_istore dX4_oneEdgeOn_4 (by decide) ?_
  exact l_oneEdgeOn S x y 64 0 0 rfl (fun _ _ => rfl)
set_option maxRecDepth 100000 in
set_option maxHeartbeats 4000000 in
theorem l_reachedFrom (S : gS) (x y : Int32) : ∀ (m i : Nat) (a c : Int64), i + m = 64 → G MX4_reachedFrom (4, 112) 10 [some (.ref 0), some (.int x), some (.int y), some (.long a), none, some (.long c), none, some (.int (nI i))] [] (wOf τ S) 0 0 (gN (wOf τ) fun v S' => (∃ r : Int64, v = .long r) ∧ S = S') := by
  intro m
  induction m with
  | zero =>
    intro i a c hi
    obtain rfl : i = 64 := by omega
    refine g_iload dX4_reachedFrom_10 rfl ?_
    refine g_bipush (v := 64) dX4_reachedFrom_12 (by decide) ?_
    refine g_icmp_ge (tgt := 50) dX4_reachedFrom_14 (by decide) (fun c14 => ?_) (fun c14 => ?_)
    · refine g_lload_n dX4_reachedFrom_50 rfl rfl ?_
      refine g_lret dX4_reachedFrom_51 rfl ⟨_, _, rfl, rfl, ?_⟩
      exact ⟨⟨_, rfl⟩, rfl⟩
    · exact absurd (show (64 : Int32) ≤ nI 64 by decide) c14
  | succ m ih =>
    intro i a c hi
    refine g_iload dX4_reachedFrom_10 rfl ?_
    refine g_bipush (v := 64) dX4_reachedFrom_12 (by decide) ?_
    refine g_icmp_ge (tgt := 50) dX4_reachedFrom_14 (by decide) (fun c14 => ?_) (fun c14 => ?_)
    · refine g_lload_n dX4_reachedFrom_50 rfl rfl ?_
      refine g_lret dX4_reachedFrom_51 rfl ⟨_, _, rfl, rfl, ?_⟩
      exact ⟨⟨_, rfl⟩, rfl⟩
    · refine g_lload dX4_reachedFrom_17 rfl ?_
      refine g_lconst (v := 0) dX4_reachedFrom_19 (by decide) ?_
      refine g_lcmp dX4_reachedFrom_20 ?_
      refine g_if_eq (tgt := 50) dX4_reachedFrom_21 (by decide) (fun c21 => ?_) (fun c21 => ?_)
      · refine g_lload_n dX4_reachedFrom_50 rfl rfl ?_
        refine g_lret dX4_reachedFrom_51 rfl ⟨_, _, rfl, rfl, ?_⟩
        exact ⟨⟨_, rfl⟩, rfl⟩
      · refine g_aload_n dX4_reachedFrom_24 rfl rfl ?_
        refine g_iload_n dX4_reachedFrom_25 rfl rfl ?_
        refine g_lload dX4_reachedFrom_26 rfl ?_
        refine cV2N (fun _ _ => rfl) dX4_reachedFrom_28 mlX4_195 imX4_oneEdgeOn seX4_oneEdgeOn rfl rfl (c_oneEdgeOn _ _ _) (by decide) (Nat.le_of_ble_eq_true rfl) (Nat.le_of_ble_eq_true rfl) (Nat.le_of_ble_eq_true rfl) ?_
        rintro _ _ ⟨⟨oe, rfl, -⟩, rfl⟩
        refine g_lload_n dX4_reachedFrom_31 rfl rfl ?_
        refine g_ldc2 dX4_reachedFrom_32 coX4_199 ?_
        refine g_lxor dX4_reachedFrom_35 ?_
        refine g_land dX4_reachedFrom_36 ?_
        refine g_lstore dX4_reachedFrom_37 (by decide) ?_
        refine g_lload_n dX4_reachedFrom_39 rfl rfl ?_
        refine g_lload dX4_reachedFrom_40 rfl ?_
        refine g_lor dX4_reachedFrom_42 ?_
        refine g_lstore_n dX4_reachedFrom_43 rfl (by decide) ?_
        refine g_iinc dX4_reachedFrom_44 rfl (by decide) (by first | exact gi_1 _ | exact gi_p _) ?_
        refine g_goto (tgt := 10) dX4_reachedFrom_47 (by decide) ?_
        exact ih (i + 1) _ _ (by omega)
set_option maxRecDepth 100000 in
set_option maxHeartbeats 4000000 in
theorem c_reachedFrom (S : gS) (x y : Int32) : gCt MX4_reachedFrom (4, 112) 0 0 [.ref 0, .int x, .int y] (wOf τ S) (gN (wOf τ) fun v S' => (∃ r : Int64, v = .long r) ∧ S = S') := by
  refine gCt.of (ls := [some (.ref 0), some (.int x), some (.int y), none, none, none, none, none]) 5 (by decide) rfl (Nat.le_of_ble_eq_true rfl) ?_
  refine g_lconst (v := 1) dX4_reachedFrom_0 (by decide) ?_
  refine g_iload_n dX4_reachedFrom_1 rfl rfl ?_
  refine g_lshl dX4_reachedFrom_2 ?_
  refine g_lstore_n dX4_reachedFrom_3 rfl (by decide) ?_
  refine g_lload_n dX4_reachedFrom_4 rfl rfl ?_
  refine g_lstore dX4_reachedFrom_5 (by decide) ?_
  refine g_iconst (v := 0) dX4_reachedFrom_7 (by decide) ?_
  refine g_istore dX4_reachedFrom_8 (by decide) ?_
  exact l_reachedFrom S x y 64 0 _ _ rfl
set_option maxRecDepth 100000 in
set_option maxHeartbeats 4000000 in
theorem l_writeChunk (S0 : gS) (x y : Int32) (h0 : ¬ S0.1 1 2 < 0) : ∀ (m i : Nat) (S : gS), i + m = 8 → (Cl S0 S ∧ S.1 4 = S0.1 4 ∧ Hold S (32 + S0.1 4 11) (4 + 8 * i)) → G MX4_writeChunk (6, 165) 8 [some (.ref 0), some (.int x), some (.int y), some (.int (nI i))] [] (wOf τ S) 0 0 (g0 (wOf τ) fun S' => Cl S0 S' ∧ S'.1 4 8 = S0.1 4 8) := by
  intro m
  induction m with
  | zero =>
    intro i S hi hS
    obtain rfl : i = 8 := by omega
    refine g_iload_n dX4_writeChunk_8 rfl rfl ?_
    refine g_bipush (v := 8) dX4_writeChunk_9 (by decide) ?_
    refine g_icmp_ge (tgt := 42) dX4_writeChunk_11 (by decide) (fun c11 => ?_) (fun c11 => ?_)
    · refine g_aload_n dX4_writeChunk_42 rfl rfl ?_
      refine cV00 (fun _ _ => rfl) dX4_writeChunk_43 mlX4_76 imX4_endRow seX4_endRow rfl rfl (c_endRow _ (hS.1 h0)) (by decide) (Nat.le_of_ble_eq_true rfl) (Nat.le_of_ble_eq_true rfl) (Nat.le_of_ble_eq_true rfl) ?_
      rintro S2 ⟨j1, j2⟩
      refine g_vret dX4_writeChunk_46 rfl ⟨_, rfl, rfl, ?_⟩
      exact ⟨hS.1.tr j1, (j2 _ (by rw [hS.2.1]; exact hS.2.2) (by decide) (by decide)).trans (by rw [hS.2.1])⟩
    · exact absurd (show (8 : Int32) ≤ nI 8 by decide) c11
  | succ m ih =>
    intro i S hi hS
    refine g_iload_n dX4_writeChunk_8 rfl rfl ?_
    refine g_bipush (v := 8) dX4_writeChunk_9 (by decide) ?_
    refine g_icmp_ge (tgt := 42) dX4_writeChunk_11 (by decide) (fun c11 => ?_) (fun c11 => ?_)
    · exact absurd c11 (nI_ge (b := 8) (by omega) (by decide))
    · refine g_aload_n dX4_writeChunk_14 rfl rfl ?_
      refine g_get dX4_writeChunk_15 flX4_12 rfl rfl ?_
      refine g_aload_n dX4_writeChunk_18 rfl rfl ?_
      refine g_get dX4_writeChunk_19 flX4_19 rfl rfl ?_
      refine g_iload_n dX4_writeChunk_22 rfl rfl ?_
      refine g_bipush (v := 8) dX4_writeChunk_23 (by decide) ?_
      refine g_imul dX4_writeChunk_25 ?_
      refine g_iload_n dX4_writeChunk_26 rfl rfl ?_
      refine g_iadd dX4_writeChunk_27 ?_
      refine cV1N (fun _ _ => rfl) dX4_writeChunk_28 mlX4_261 imX2_edgesOfNow seX2_edgesOfNow rfl rfl (c_edgesOfNow4 _ _) (by decide) (Nat.le_of_ble_eq_true rfl) (Nat.le_of_ble_eq_true rfl) (Nat.le_of_ble_eq_true rfl) ?_
      rintro _ _ ⟨⟨en, rfl, -⟩, rfl⟩
      refine g_bipush (v := 8) dX4_writeChunk_31 (by decide) ?_
      refine cV20 (fun _ _ => rfl) dX4_writeChunk_33 mlX4_72 imX1_write seX1_write rfl rfl (c_write _ _ 8 (by decide) (hS.1 h0)) (by decide) (Nat.le_of_ble_eq_true rfl) (Nat.le_of_ble_eq_true rfl) (Nat.le_of_ble_eq_true rfl) ?_
      rintro _ rfl
      refine g_iinc dX4_writeChunk_36 rfl (by decide) (by first | exact gi_1 _ | exact gi_p _) ?_
      refine g_goto (tgt := 8) dX4_writeChunk_39 (by decide) ?_
      exact ih (i + 1) _ (by omega) ⟨hS.1.tr (dwrs_Cl _ _ (hS.1 h0)), (dwrs_k _ _ (by decide) _ _).trans hS.2.1, by rw [show 4 + 8 * (i + 1) = 4 + 8 * i + 8 by omega]; exact Hold.wrs _ 8 hS.2.2 (by omega) (by omega)⟩
set_option maxRecDepth 100000 in
set_option maxHeartbeats 4000000 in
theorem c_writeChunk (S : gS) (x y : Int32) (h0 : ¬ S.1 1 2 < 0) : gCt MX4_writeChunk (6, 165) 0 0 [.ref 0, .int x, .int y] (wOf τ S) (g0 (wOf τ) fun S' => Cl S S' ∧ S'.1 4 8 = S.1 4 8) := by
  refine gCt.of (ls := [some (.ref 0), some (.int x), some (.int y), none]) 1 (by decide) rfl (Nat.le_of_ble_eq_true rfl) ?_
  refine g_aload_n dX4_writeChunk_0 rfl rfl ?_
  refine g_iconst (v := 1) dX4_writeChunk_1 (by decide) ?_
  refine g_iload_n dX4_writeChunk_2 rfl rfl ?_
  refine cV20 (fun _ _ => rfl) dX4_writeChunk_3 mlX4_68 imX4_startRow seX4_startRow rfl rfl (c_startRow _ _ _ h0) (by decide) (Nat.le_of_ble_eq_true rfl) (Nat.le_of_ble_eq_true rfl) (Nat.le_of_ble_eq_true rfl) ?_
  rintro S1 ⟨k1, k2, k3, k4, k5⟩
  refine g_iconst (v := 0) dX4_writeChunk_6 (by decide) ?_
  refine g_istore_n dX4_writeChunk_7 rfl (by decide) ?_
  exact l_writeChunk S x y h0 8 0 _ rfl ⟨k1, k2, k5 rfl⟩
def anewS (room : Int32) (S : gS) : gS :=
  let S1 := mS (kfor4 room (mA S 2 (fillB (S.2.1 2) 0 24032))) 0 4 0
  mS (mS (whead (if S1.1 0 4 &&& 1 = 1 then 16 else 0) S1) 1 2 0) 0 5 1
theorem kfor4_w (room : Int32) (S : gS) : (kfor4 room S).1 1 2 = S.1 1 2 := by
  unfold kfor4
  repeat rw [mS_ne (by decide)]
  show (mS S 4 6 room).1 1 2 = S.1 1 2
  rw [mS_ne (by decide)]
theorem anewS_w (room : Int32) (S : gS) : (anewS room S).1 1 2 = 0 := by
  unfold anewS
  simp only
  rw [mS_ne (by decide), mS_same]
set_option maxRecDepth 100000 in
set_option maxHeartbeats 4000000 in
theorem c_startAnew (S : gS) (x : Int32) (h0 : ¬ S.1 1 2 < 0) : gCt MX4_startAnew (4, 106) 0 0 [.ref 0, .int x] (wOf τ S) (g0 (wOf τ) fun S' => S' = anewS x S) := by
  refine gCt.of (ls := [some (.ref 0), some (.int x)]) 0 (by decide) rfl (Nat.le_of_ble_eq_true rfl) ?_
  refine g_aload_n dX4_startAnew_0 rfl rfl ?_
  refine g_get dX4_startAnew_1 flX4_12 rfl rfl ?_
  refine cV00 (fun _ _ => rfl) dX4_startAnew_4 mlX4_238 imX1_clear seX1_clear rfl rfl (c_clear _) (by decide) (Nat.le_of_ble_eq_true rfl) (Nat.le_of_ble_eq_true rfl) (Nat.le_of_ble_eq_true rfl) ?_
  rintro _ rfl
  refine g_aload_n dX4_startAnew_7 rfl rfl ?_
  refine g_get dX4_startAnew_8 flX4_19 rfl rfl ?_
  refine g_iload_n dX4_startAnew_11 rfl rfl ?_
  refine cV10 (fun _ _ => rfl) dX4_startAnew_12 mlX4_241 imX2_forget seX2_forget rfl rfl (c_knForget4 _ _) (by decide) (Nat.le_of_ble_eq_true rfl) (Nat.le_of_ble_eq_true rfl) (Nat.le_of_ble_eq_true rfl) ?_
  rintro _ rfl
  refine g_aload_n dX4_startAnew_15 rfl rfl ?_
  refine g_iconst (v := 0) dX4_startAnew_16 (by decide) ?_
  refine p_put dX4_startAnew_17 fpX4_119 rfl (Nat.le_of_ble_eq_true rfl) (fun _ => rfl) (fun _ => rfl) (by with_reducible first | exact wS_0_4 _ _ _) ?_
  refine g_aload_n dX4_startAnew_20 rfl rfl ?_
  refine cV00 (fun _ _ => rfl) dX4_startAnew_21 mlX4_122 imX4_writeHead seX4_writeHead rfl rfl (c_writeHead _ (by rw [mS_ne (by decide), kfor4_w]; exact h0)) (by decide) (Nat.le_of_ble_eq_true rfl) (Nat.le_of_ble_eq_true rfl) (Nat.le_of_ble_eq_true rfl) ?_
  rintro _ rfl
  refine g_aload_n dX4_startAnew_24 rfl rfl ?_
  refine g_get dX4_startAnew_25 flX4_12 rfl rfl ?_
  refine cV00 (fun _ _ => rfl) dX4_startAnew_28 mlX4_145 imX1_forgetWritten seX1_forgetWritten rfl rfl (c_forgetWritten _) (by decide) (Nat.le_of_ble_eq_true rfl) (Nat.le_of_ble_eq_true rfl) (Nat.le_of_ble_eq_true rfl) ?_
  rintro _ rfl
  refine g_aload_n dX4_startAnew_31 rfl rfl ?_
  refine g_iconst (v := 1) dX4_startAnew_32 (by decide) ?_
  refine p_put dX4_startAnew_33 fpX4_125 rfl (Nat.le_of_ble_eq_true rfl) (fun _ => rfl) (fun _ => rfl) (by with_reducible first | exact wS_0_5 _ _ _) ?_
  refine g_vret dX4_startAnew_36 rfl ⟨_, rfl, rfl, ?_⟩
  rfl
end
