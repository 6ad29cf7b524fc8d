section
variable {Γ : gS} {τ : gW}
def fdm : Nat → Int32 := mhd (fun _ => 0) 0 0 0
/-- the reference, new -/
def Fm (R : gS) : Prop := (R.1 28 3 = 1 ∧ R.1 28 4 = 0 ∧ R.1 28 7 = nI 0 ∧ R.1 28 1 = 64) ∧ (R.1 28 9 = nI 0 ∧ R.1 28 10 = 0 ∧ R.1 28 11 = 0 ∧ R.1 28 14 = nI 0 ∧ R.1 28 16 = nI 0 ∧ R.1 28 19 = 0) ∧ (∀ j, j < 64 → R.2.2 32 j = 0) ∧ (∀ j, j < 65536 → R.2.1 33 j = -1) ∧ R.2.1 29 = fdm
theorem Fm.op {R : gS} (f : Fm R) : R.1 28 3 = 1 := f.1.1
theorem Fm.tn {R : gS} (f : Fm R) : R.1 28 4 = 0 := f.1.2.1
theorem Fm.wr {R : gS} (f : Fm R) : R.1 28 7 = nI 0 := f.1.2.2.1
theorem Fm.rm {R : gS} (f : Fm R) : R.1 28 1 = 64 := f.1.2.2.2
theorem Fm.lg {R : gS} (f : Fm R) : R.1 28 9 = nI 0 := f.2.1.1
theorem Fm.rw_ {R : gS} (f : Fm R) : R.1 28 10 = 0 := f.2.1.2.1
theorem Fm.ch {R : gS} (f : Fm R) : R.1 28 11 = 0 := f.2.1.2.2.1
theorem Fm.cc {R : gS} (f : Fm R) : R.1 28 14 = nI 0 := f.2.1.2.2.2.1
theorem Fm.vs {R : gS} (f : Fm R) : R.1 28 16 = nI 0 := f.2.1.2.2.2.2.1
theorem Fm.an {R : gS} (f : Fm R) : R.1 28 19 = 0 := f.2.1.2.2.2.2.2
theorem Fm.nw {R : gS} (f : Fm R) : ∀ j, j < 64 → R.2.2 32 j = 0 := f.2.2.1
theorem Fm.sl {R : gS} (f : Fm R) : ∀ j, j < 65536 → R.2.1 33 j = -1 := f.2.2.2.1
theorem Fm.dk {R : gS} (f : Fm R) : R.2.1 29 = fdm := f.2.2.2.2
theorem Fm.t {R : gS} (f : Fm R) (v : Int32) : Fm (mS R 28 0 v) := f
theorem in63 (x : Int32) : ((if x < 0 then 0 else if 63 < x then 0 else 1 : Int32) = 0) ↔ ¬ inN x := by
  unfold inN
  by_cases h1 : x < 0
  · simp [h1]
  · have e : 63 < x ↔ ¬ x < 64 := by
      rw [Int32.lt_iff_toInt_lt, Int32.lt_iff_toInt_lt]
      show (63 : Int) < x.toInt ↔ ¬ x.toInt < 64
      omega
    by_cases h2 : 63 < x
    · simp [h1, h2, e.mp h2]
    · have h3 : x < 64 := Classical.byContradiction fun z => h2 (e.mpr z)
      simp [h1, h2, h3]
theorem in63n {x : Int32} (h : ¬ (if x < 0 then 0 else if 63 < x then 0 else 1 : Int32) = 0) : inN x := Classical.byContradiction fun z => h ((in63 x).mpr z)
theorem in63y {x : Int32} (h : (if x < 0 then 0 else if 63 < x then 0 else 1 : Int32) = 0) : ¬ inN x := (in63 x).mp h
theorem inNi {x : Int32} (h : inN x) : ∃ i : Nat, i < 64 ∧ x = nI i := by
  obtain ⟨i, hi, e, -⟩ := pk_mu (L := 64) h.1 (Int32.not_le.mpr h.2) (by decide)
  exact ⟨i, hi, e⟩
theorem inm1 (x : Int32) : (if x < 0 then 0 else if nI 0 - 1 < x then 0 else 1 : Int32) = 0 := by
  by_cases h : x < 0
  · rw [if_pos h]
  · rw [if_neg h, if_pos]
    rw [Int32.lt_iff_toInt_lt] at h ⊢
    show (-1 : Int) < x.toInt
    have : ¬ x.toInt < 0 := h
    omega
theorem fillB_in (f : Nat → Int32) (v : Int32) : ∀ (n j : Nat), j < n → fillB f v n j = v := by
  intro n
  induction n with
  | zero => intro j h; omega
  | succ n ih =>
    intro j h
    show upd (fillB f v n) n v j = v
    by_cases e : j = n
    · rw [e, pk_us]
    · rw [pk_un e]; exact ih j (by omega)
theorem fillB_0 (v : Int32) : ∀ n : Nat, fillB (fun _ => v) v n = fun _ => v := by
  intro n
  induction n with
  | zero => rfl
  | succ n ih =>
    show upd (fillB (fun _ => v) v n) n v = _
    rw [ih]
    funext j
    by_cases e : j = n
    · rw [e, pk_us]
    · rw [pk_un e]
def msc (S : gS) : gS := mS (mS (mS (mS (mS (mS S 28 9 0) 28 10 0) 28 11 0) 28 14 0) 28 16 0) 28 19 0
def mfor (S : gS) : gS := mA (mA (mL (msc S) 32 (fillL (S.2.2 32) 0 64)) 33 (fillB (S.2.1 33) (-1) 65536)) 35 (fillB (S.2.1 35) 0 100)
set_option maxRecDepth 100000 in
set_option maxHeartbeats 4000000 in
theorem lf3 (T : gS) {Q : gR → gW → Prop} (kk : G MX5_forget (0, 0) 93 [some (.ref 28), some (.int (nI 100))] [] (wRf Γ τ (mA T 35 (fillB (T.2.1 35) 0 100))) 0 0 Q) : ∀ (m i : Nat), i + m = 100 → G MX5_forget (0, 0) 74 [some (.ref 28), some (.int (nI i))] [] (wRf Γ τ (mA T 35 (fillB (T.2.1 35) 0 i))) 0 0 Q := by
  intro m
  induction m with
  | zero =>
    intro i hi
    obtain rfl : i = 100 := by omega
    refine g_iload_n dX5_forget_74 rfl rfl ?_
    refine g_bipush (v := 100) dX5_forget_75 (by decide) ?_
    refine g_icmp_ge (tgt := 93) dX5_forget_77 (by decide) (fun c77 => ?_) (fun c77 => ?_)
    · exact kk
    · exact absurd (nI_le (a := 100) (b := 100) (Nat.le_refl _) (by decide)) c77
  | succ m ih =>
    intro i hi
    refine g_iload_n dX5_forget_74 rfl rfl ?_
    refine g_bipush (v := 100) dX5_forget_75 (by decide) ?_
    refine g_icmp_ge (tgt := 93) dX5_forget_77 (by decide) (fun c77 => ?_) (fun c77 => ?_)
    · exact absurd c77 (nI_ge (b := 100) (by omega) (by decide))
    · refine g_aload_n dX5_forget_80 rfl rfl ?_
      refine g_get dX5_forget_81 flX5_31 rfl rfl ?_
      refine g_iload_n dX5_forget_84 rfl rfl ?_
      refine g_iconst (v := 0) dX5_forget_85 (by decide) ?_
      refine p_zast dX5_forget_86 rfl (vp_in_nI (by omega) (by decide)) (by with_reducible first | exact wA_29 _ _ _ _ | exact wA_30 _ _ _ _ | exact wA_31 _ _ _ _ | exact wA_32 _ _ _ _ | exact wA_33 _ _ _ _ | exact wA_34 _ _ _ _ | exact wA_35 _ _ _ _ | exact wA_36 _ _ _ _ | exact wA_37 _ _ _ _ | exact wA_38 _ _ _ _ | exact wA_39 _ _ _ _ | exact wA_40 _ _ _ _ | exact wA_41 _ _ _ _ | exact wA_42 _ _ _ _ | exact wA_43 _ _ _ _ | exact wA_44 _ _ _ _ | exact wA_45 _ _ _ _ | exact wA_46 _ _ _ _ | exact wA_47 _ _ _ _) ?_
      refine g_iinc dX5_forget_87 rfl (by decide) (by first | exact gi_1 _ | exact gi_p _) ?_
      refine g_goto (tgt := 74) dX5_forget_90 (by decide) ?_
      rw [mA_mA, nI_clamp (n := i) (by omega)]
      show G MX5_forget (0, 0) 74 _ [] (wRf Γ τ (mA T 35 (fillB (T.2.1 35) 0 (i + 1)))) 0 0 Q
      exact ih (i + 1) (by omega)
set_option maxRecDepth 100000 in
set_option maxHeartbeats 4000000 in
theorem lf2 (T : gS) {Q : gR → gW → Prop} (kk : G MX5_forget (0, 0) 72 [some (.ref 28), some (.int (nI 65536))] [] (wRf Γ τ (mA T 33 (fillB (T.2.1 33) (-1) 65536))) 0 0 Q) : ∀ (m i : Nat), i + m = 65536 → G MX5_forget (0, 0) 53 [some (.ref 28), some (.int (nI i))] [] (wRf Γ τ (mA T 33 (fillB (T.2.1 33) (-1) i))) 0 0 Q := by
  intro m
  induction m with
  | zero =>
    intro i hi
    obtain rfl : i = 65536 := by omega
    refine g_iload_n dX5_forget_53 rfl rfl ?_
    refine g_ldc dX5_forget_54 coX5_24 ?_
    refine g_icmp_ge (tgt := 72) dX5_forget_56 (by decide) (fun c56 => ?_) (fun c56 => ?_)
    · exact kk
    · exact absurd (nI_le (a := 65536) (b := 65536) (Nat.le_refl _) (by decide)) c56
  | succ m ih =>
    intro i hi
    refine g_iload_n dX5_forget_53 rfl rfl ?_
    refine g_ldc dX5_forget_54 coX5_24 ?_
    refine g_icmp_ge (tgt := 72) dX5_forget_56 (by decide) (fun c56 => ?_) (fun c56 => ?_)
    · exact absurd c56 (nI_ge (b := 65536) (by omega) (by decide))
    · refine g_aload_n dX5_forget_59 rfl rfl ?_
      refine g_get dX5_forget_60 flX5_25 rfl rfl ?_
      refine g_iload_n dX5_forget_63 rfl rfl ?_
      refine g_iconst (v := (-1)) dX5_forget_64 (by decide) ?_
      refine p_iast dX5_forget_65 rfl (vp_in_nI (by omega) (by decide)) (by with_reducible first | exact wA_29 _ _ _ _ | exact wA_30 _ _ _ _ | exact wA_31 _ _ _ _ | exact wA_32 _ _ _ _ | exact wA_33 _ _ _ _ | exact wA_34 _ _ _ _ | exact wA_35 _ _ _ _ | exact wA_36 _ _ _ _ | exact wA_37 _ _ _ _ | exact wA_38 _ _ _ _ | exact wA_39 _ _ _ _ | exact wA_40 _ _ _ _ | exact wA_41 _ _ _ _ | exact wA_42 _ _ _ _ | exact wA_43 _ _ _ _ | exact wA_44 _ _ _ _ | exact wA_45 _ _ _ _ | exact wA_46 _ _ _ _ | exact wA_47 _ _ _ _) ?_
      refine g_iinc dX5_forget_66 rfl (by decide) (by first | exact gi_1 _ | exact gi_p _) ?_
      refine g_goto (tgt := 53) dX5_forget_69 (by decide) ?_
      rw [mA_mA, nI_clamp (n := i) (by omega)]
      show G MX5_forget (0, 0) 53 _ [] (wRf Γ τ (mA T 33 (fillB (T.2.1 33) (-1) (i + 1)))) 0 0 Q
      exact ih (i + 1) (by omega)
set_option maxRecDepth 100000 in
set_option maxHeartbeats 4000000 in
theorem lf1 (T : gS) {Q : gR → gW → Prop} (kk : G MX5_forget (0, 0) 51 [some (.ref 28), some (.int (nI 64))] [] (wRf Γ τ (mL T 32 (fillL (T.2.2 32) 0 64))) 0 0 Q) : ∀ (m i : Nat), i + m = 64 → G MX5_forget (0, 0) 32 [some (.ref 28), some (.int (nI i))] [] (wRf Γ τ (mL T 32 (fillL (T.2.2 32) 0 i))) 0 0 Q := by
  intro m
  induction m with
  | zero =>
    intro i hi
    obtain rfl : i = 64 := by omega
    refine g_iload_n dX5_forget_32 rfl rfl ?_
    refine g_bipush (v := 64) dX5_forget_33 (by decide) ?_
    refine g_icmp_ge (tgt := 51) dX5_forget_35 (by decide) (fun c35 => ?_) (fun c35 => ?_)
    · exact kk
    · exact absurd (nI_le (a := 64) (b := 64) (Nat.le_refl _) (by decide)) c35
  | succ m ih =>
    intro i hi
    refine g_iload_n dX5_forget_32 rfl rfl ?_
    refine g_bipush (v := 64) dX5_forget_33 (by decide) ?_
    refine g_icmp_ge (tgt := 51) dX5_forget_35 (by decide) (fun c35 => ?_) (fun c35 => ?_)
    · exact absurd c35 (nI_ge (b := 64) (by omega) (by decide))
    · refine g_aload_n dX5_forget_38 rfl rfl ?_
      refine g_get dX5_forget_39 flX5_20 rfl rfl ?_
      refine g_iload_n dX5_forget_42 rfl rfl ?_
      refine g_lconst (v := 0) dX5_forget_43 (by decide) ?_
      refine p_last dX5_forget_44 rfl (vp_in_nI (by omega) (by decide)) (by with_reducible first | exact wA_29 _ _ _ _ | exact wA_30 _ _ _ _ | exact wA_31 _ _ _ _ | exact wA_32 _ _ _ _ | exact wA_33 _ _ _ _ | exact wA_34 _ _ _ _ | exact wA_35 _ _ _ _ | exact wA_36 _ _ _ _ | exact wA_37 _ _ _ _ | exact wA_38 _ _ _ _ | exact wA_39 _ _ _ _ | exact wA_40 _ _ _ _ | exact wA_41 _ _ _ _ | exact wA_42 _ _ _ _ | exact wA_43 _ _ _ _ | exact wA_44 _ _ _ _ | exact wA_45 _ _ _ _ | exact wA_46 _ _ _ _ | exact wA_47 _ _ _ _) ?_
      refine g_iinc dX5_forget_45 rfl (by decide) (by first | exact gi_1 _ | exact gi_p _) ?_
      refine g_goto (tgt := 32) dX5_forget_48 (by decide) ?_
      rw [mL_mL, nI_clamp (n := i) (by omega)]
      show G MX5_forget (0, 0) 32 _ [] (wRf Γ τ (mL T 32 (fillL (T.2.2 32) 0 (i + 1)))) 0 0 Q
      exact ih (i + 1) (by omega)
set_option maxRecDepth 100000 in
set_option maxHeartbeats 4000000 in
theorem m_forget (S : gS) : gCt MX5_forget (0, 0) 0 0 [.ref 28] (wRf Γ τ S) (g0 (wRf Γ τ) fun S' => S' = mfor S) := by
  refine gCt.of (ls := [some (.ref 28), none]) 1 (by decide) rfl (Nat.le_of_ble_eq_true rfl) ?_
  refine g_aload_n dX5_forget_0 rfl rfl ?_
  refine g_iconst (v := 0) dX5_forget_1 (by decide) ?_
  refine p_put dX5_forget_2 fpX5_98 rfl (Nat.le_of_ble_eq_true rfl) (fun _ => rfl) (fun _ => rfl) (by with_reducible first | exact wS_28_9 _ _ _ _) ?_
  refine g_aload_n dX5_forget_5 rfl rfl ?_
  refine g_iconst (v := 0) dX5_forget_6 (by decide) ?_
  refine p_put dX5_forget_7 fpX5_101 rfl (Nat.le_of_ble_eq_true rfl) (fun _ => rfl) (fun _ => rfl) (by with_reducible first | exact wS_28_10 _ _ _ _) ?_
  refine g_aload_n dX5_forget_10 rfl rfl ?_
  refine g_iconst (v := 0) dX5_forget_11 (by decide) ?_
  refine p_put dX5_forget_12 fpX5_104 rfl (Nat.le_of_ble_eq_true rfl) (fun _ => rfl) (fun _ => rfl) (by with_reducible first | exact wS_28_11 _ _ _ _) ?_
  refine g_aload_n dX5_forget_15 rfl rfl ?_
  refine g_iconst (v := 0) dX5_forget_16 (by decide) ?_
  refine p_put dX5_forget_17 fpX5_107 rfl (Nat.le_of_ble_eq_true rfl) (fun _ => rfl) (fun _ => rfl) (by with_reducible first | exact wS_28_14 _ _ _ _) ?_
  refine g_aload_n dX5_forget_20 rfl rfl ?_
  refine g_iconst (v := 0) dX5_forget_21 (by decide) ?_
  refine p_put dX5_forget_22 fpX5_110 rfl (Nat.le_of_ble_eq_true rfl) (fun _ => rfl) (fun _ => rfl) (by with_reducible first | exact wS_28_16 _ _ _ _) ?_
  refine g_aload_n dX5_forget_25 rfl rfl ?_
  refine g_iconst (v := 0) dX5_forget_26 (by decide) ?_
  refine p_put dX5_forget_27 fpX5_113 rfl (Nat.le_of_ble_eq_true rfl) (fun _ => rfl) (fun _ => rfl) (by with_reducible first | exact wS_28_19 _ _ _ _) ?_
  refine g_iconst (v := 0) dX5_forget_30 (by decide) ?_
  refine g_istore_n dX5_forget_31 rfl (by decide) ?_
  show G MX5_forget (0, 0) 32 [some (.ref 28), some (.int (nI 0))] [] (wRf Γ τ (msc S)) 0 0 _
  have e0 : wRf Γ τ (msc S) = wRf Γ τ (mL (msc S) 32 (fillL ((msc S).2.2 32) 0 0)) := by rw [show fillL ((msc S).2.2 32) 0 0 = (msc S).2.2 32 from rfl, mL_self]
  rw [e0]
  refine lf1 (msc S) ?_ 64 0 rfl
  refine g_iconst (v := 0) dX5_forget_51 (by decide) ?_
  refine g_istore_n dX5_forget_52 rfl (by decide) ?_
  have e1 : wRf Γ τ (mL (msc S) 32 (fillL ((msc S).2.2 32) 0 64)) = wRf Γ τ (mA (mL (msc S) 32 (fillL ((msc S).2.2 32) 0 64)) 33 (fillB ((mL (msc S) 32 (fillL ((msc S).2.2 32) 0 64)).2.1 33) (-1) 0)) := by rw [show fillB ((mL (msc S) 32 (fillL ((msc S).2.2 32) 0 64)).2.1 33) (-1) 0 = (mL (msc S) 32 (fillL ((msc S).2.2 32) 0 64)).2.1 33 from rfl, mA_self]
  rw [e1]
  refine lf2 (mL (msc S) 32 (fillL ((msc S).2.2 32) 0 64)) ?_ 65536 0 rfl
  refine g_iconst (v := 0) dX5_forget_72 (by decide) ?_
  refine g_istore_n dX5_forget_73 rfl (by decide) ?_
  have e2 : ∀ T : gS, wRf Γ τ T = wRf Γ τ (mA T 35 (fillB (T.2.1 35) 0 0)) := fun T => by rw [show fillB (T.2.1 35) 0 0 = T.2.1 35 from rfl, mA_self]
  rw [e2]
  refine lf3 _ ?_ 100 0 rfl
  refine g_vret dX5_forget_93 rfl ⟨_, rfl, rfl, ?_⟩
  rfl
def man1 (c : Int32) (S : gS) : gS := mS (mS (mfor (mA (mS S 28 1 c) 29 (fillB (S.2.1 29) 0 24032))) 28 7 0) 28 4 0
set_option maxRecDepth 100000 in
set_option maxHeartbeats 4000000 in
theorem la1 (x : Int32) (T : gS) {Q : gR → gW → Prop} (kk : G MX5_anew (3, 87) 27 [some (.ref 28), some (.int x), some (.int (nI 24032))] [] (wRf Γ τ (mA T 29 (fillB (T.2.1 29) 0 24032))) 0 0 Q) : ∀ (m i : Nat), i + m = 24032 → G MX5_anew (3, 87) 7 [some (.ref 28), some (.int x), some (.int (nI i))] [] (wRf Γ τ (mA T 29 (fillB (T.2.1 29) 0 i))) 0 0 Q := by
  intro m
  induction m with
  | zero =>
    intro i hi
    obtain rfl : i = 24032 := by omega
    refine g_iload_n dX5_anew_7 rfl rfl ?_
    refine g_sipush (v := 24032) dX5_anew_8 (by decide) ?_
    refine g_icmp_ge (tgt := 27) dX5_anew_11 (by decide) (fun c11 => ?_) (fun c11 => ?_)
    · exact kk
    · exact absurd (nI_le (a := 24032) (b := 24032) (Nat.le_refl _) (by decide)) c11
  | succ m ih =>
    intro i hi
    refine g_iload_n dX5_anew_7 rfl rfl ?_
    refine g_sipush (v := 24032) dX5_anew_8 (by decide) ?_
    refine g_icmp_ge (tgt := 27) dX5_anew_11 (by decide) (fun c11 => ?_) (fun c11 => ?_)
    · exact absurd c11 (nI_ge (b := 24032) (by omega) (by decide))
    · refine g_aload_n dX5_anew_14 rfl rfl ?_
      refine g_get dX5_anew_15 flX5_7 rfl rfl ?_
      refine g_iload_n dX5_anew_18 rfl rfl ?_
      refine g_iconst (v := 0) dX5_anew_19 (by decide) ?_
      refine p_iast dX5_anew_20 rfl (vp_in_nI (by omega) (by decide)) (by with_reducible first | exact wA_29 _ _ _ _ | exact wA_30 _ _ _ _ | exact wA_31 _ _ _ _ | exact wA_32 _ _ _ _ | exact wA_33 _ _ _ _ | exact wA_34 _ _ _ _ | exact wA_35 _ _ _ _ | exact wA_36 _ _ _ _ | exact wA_37 _ _ _ _ | exact wA_38 _ _ _ _ | exact wA_39 _ _ _ _ | exact wA_40 _ _ _ _ | exact wA_41 _ _ _ _ | exact wA_42 _ _ _ _ | exact wA_43 _ _ _ _ | exact wA_44 _ _ _ _ | exact wA_45 _ _ _ _ | exact wA_46 _ _ _ _ | exact wA_47 _ _ _ _) ?_
      refine g_iinc dX5_anew_21 rfl (by decide) (by first | exact gi_1 _ | exact gi_p _) ?_
      refine g_goto (tgt := 7) dX5_anew_24 (by decide) ?_
      rw [mA_mA, nI_clamp (n := i) (by omega)]
      show G MX5_anew (3, 87) 7 _ [] (wRf Γ τ (mA T 29 (fillB (T.2.1 29) 0 (i + 1)))) 0 0 Q
      exact ih (i + 1) (by omega)
set_option maxRecDepth 100000 in
set_option maxHeartbeats 4000000 in
theorem m_anew (S : gS) (x : Int32) : gCt MX5_anew (3, 87) 0 0 [.ref 28, .int x] (wRf Γ τ S) (g0 (wRf Γ τ) fun S' => ∃ S2 : gS, Mw (man1 x S) S2 0 16 (mhd ((man1 x S).2.1 29) 0 0 ((man1 x S).1 28 9)) ∧ S' = mS (mS S2 28 7 0) 28 3 1) := by
  refine gCt.of (ls := [some (.ref 28), some (.int x), none]) 1 (by decide) rfl (Nat.le_of_ble_eq_true rfl) ?_
  refine g_aload_n dX5_anew_0 rfl rfl ?_
  refine g_iload_n dX5_anew_1 rfl rfl ?_
  refine p_put dX5_anew_2 fpX5_79 rfl (Nat.le_of_ble_eq_true rfl) (fun _ => rfl) (fun _ => rfl) (by with_reducible first | exact wS_28_1 _ _ _ _) ?_
  refine g_iconst (v := 0) dX5_anew_5 (by decide) ?_
  refine g_istore_n dX5_anew_6 rfl (by decide) ?_
  have e0 : ∀ T : gS, wRf Γ τ T = wRf Γ τ (mA T 29 (fillB (T.2.1 29) 0 0)) := fun T => by rw [show fillB (T.2.1 29) 0 0 = T.2.1 29 from rfl, mA_self]
  rw [e0]
  refine la1 x (mS S 28 1 x) ?_ 24032 0 rfl
  refine g_aload_n dX5_anew_27 rfl rfl ?_
  refine cV00 (fun _ _ => rfl) dX5_anew_28 mlX5_82 imX5_forget seX5_forget rfl rfl (m_forget _) (by decide) (Nat.le_of_ble_eq_true rfl) (Nat.le_of_ble_eq_true rfl) (Nat.le_of_ble_eq_true rfl) ?_
  rintro _ rfl
  refine g_aload_n dX5_anew_31 rfl rfl ?_
  refine g_iconst (v := 0) dX5_anew_32 (by decide) ?_
  refine p_put dX5_anew_33 fpX5_85 rfl (Nat.le_of_ble_eq_true rfl) (fun _ => rfl) (fun _ => rfl) (by with_reducible first | exact wS_28_7 _ _ _ _) ?_
  refine g_aload_n dX5_anew_36 rfl rfl ?_
  refine g_iconst (v := 0) dX5_anew_37 (by decide) ?_
  refine p_put dX5_anew_38 fpX5_88 rfl (Nat.le_of_ble_eq_true rfl) (fun _ => rfl) (fun _ => rfl) (by with_reducible first | exact wS_28_4 _ _ _ _) ?_
  refine g_aload_n dX5_anew_41 rfl rfl ?_
  refine g_iconst (v := 0) dX5_anew_42 (by decide) ?_
  refine cV10 (fun _ _ => rfl) dX5_anew_43 mlX5_91 imX5_putHead seX5_putHead rfl rfl (m_putHead _ 0 0 (by rw [mS_ne (by decide), mS_same]; rfl) (by decide)) (by decide) (Nat.le_of_ble_eq_true rfl) (Nat.le_of_ble_eq_true rfl) (Nat.le_of_ble_eq_true rfl) ?_
  rintro S2 ⟨pl, hpl, hpl0, hS2⟩
  refine g_aload_n dX5_anew_46 rfl rfl ?_
  refine g_iconst (v := 0) dX5_anew_47 (by decide) ?_
  refine p_put dX5_anew_48 fpX5_85 rfl (Nat.le_of_ble_eq_true rfl) (fun _ => rfl) (fun _ => rfl) (by with_reducible first | exact wS_28_7 _ _ _ _) ?_
  refine g_aload_n dX5_anew_51 rfl rfl ?_
  refine g_iconst (v := 1) dX5_anew_52 (by decide) ?_
  refine p_put dX5_anew_53 fpX5_94 rfl (Nat.le_of_ble_eq_true rfl) (fun _ => rfl) (fun _ => rfl) (by with_reducible first | exact wS_28_3 _ _ _ _) ?_
  refine g_vret dX5_anew_56 rfl ⟨_, rfl, rfl, ?_⟩
  refine ⟨S2, ?_, rfl⟩
  obtain rfl : pl = 0 := hpl0 rfl
  exact hS2
theorem man1_0 (x : Int32) (S : gS) : (man1 x S).1 28 0 = S.1 28 0 := by
  unfold man1 mfor msc
  rw [mS_ne (by decide), mS_ne (by decide)]
  show (mS (mS (mS (mS (mS (mS _ 28 9 0) 28 10 0) 28 11 0) 28 14 0) 28 16 0) 28 19 0).1 28 0 = _
  repeat rw [mS_ne (by decide)]
  show (mS S 28 1 x).1 28 0 = _
  rw [mS_ne (by decide)]
set_option maxRecDepth 100000 in
set_option maxHeartbeats 4000000 in
theorem m_begin (S : gS) (x : Int32) : gCt MX5_begin (4, 109) 0 0 [.ref 28, .int x] (wRf Γ τ S) (g0 (wRf Γ τ) fun S' => (x < 0 → S'.1 28 0 = 1) ∧ (¬ x < 0 → (x = 0 ∨ ¬ x ≤ 65536) → S'.1 28 0 = 2) ∧ (¬ x < 0 → ¬ x = 0 → x ≤ 65536 → S'.1 28 0 = 0)) := by
  refine gCt.of (ls := [some (.ref 28), some (.int x)]) 0 (by decide) rfl (Nat.le_of_ble_eq_true rfl) ?_
  refine g_aload_n dX5_begin_0 rfl rfl ?_
  refine g_iload_n dX5_begin_1 rfl rfl ?_
  refine g_if_ge (tgt := 9) dX5_begin_2 (by decide) (fun c2 => ?_) (fun c2 => ?_)
  · refine g_iload_n dX5_begin_9 rfl rfl ?_
    refine g_if_eq (tgt := 19) dX5_begin_10 (by decide) (fun c10 => ?_) (fun c10 => ?_)
    · refine g_iconst (v := 2) dX5_begin_19 (by decide) ?_
      refine g_goto (tgt := 24) dX5_begin_20 (by decide) ?_
      refine p_put dX5_begin_24 fpX5_75 rfl (Nat.le_of_ble_eq_true rfl) (fun _ => rfl) (fun _ => rfl) (by with_reducible first | exact wS_28_0 _ _ _ _) ?_
      refine g_aload_n dX5_begin_27 rfl rfl ?_
      refine g_get dX5_begin_28 flX5_75 rfl rfl ?_
      refine g_if_ne (tgt := 39) dX5_begin_31 (by decide) (fun c31 => ?_) (fun c31 => ?_)
      · refine g_vret dX5_begin_39 rfl ⟨_, rfl, rfl, ?_⟩
        first | exact absurd (mS_same S 28 0 0) c31 | exact absurd ((mS_same S 28 0 1).symm.trans c31) (by decide) | exact absurd ((mS_same S 28 0 2).symm.trans c31) (by decide) | exact ⟨fun z => absurd z (Int32.not_lt.mpr c2), fun _ z => absurd z (fun z => z.elim c10 (fun y => y c16)), fun _ _ _ => (by rw [mS_ne (by decide), mS_ne (by decide), hS2.2.2.1 0 (by decide), man1_0, mS_same])⟩ | exact ⟨fun _ => mS_same _ _ _ _, fun z => absurd (Int32.not_le.mp c2) z, fun z => absurd (Int32.not_le.mp c2) z⟩ | exact ⟨fun z => absurd z (Int32.not_lt.mpr c2), fun _ _ => mS_same _ _ _ _, fun _ z => absurd c10 z⟩ | exact ⟨fun z => absurd z (Int32.not_lt.mpr c2), fun _ _ => mS_same _ _ _ _, fun _ _ z => absurd z c16⟩
      · refine g_aload_n dX5_begin_34 rfl rfl ?_
        refine g_iload_n dX5_begin_35 rfl rfl ?_
        refine cV10 (fun _ _ => rfl) dX5_begin_36 mlX5_71 imX5_anew seX5_anew rfl rfl (m_anew _ _) (by decide) (Nat.le_of_ble_eq_true rfl) (Nat.le_of_ble_eq_true rfl) (Nat.le_of_ble_eq_true rfl) ?_
        rintro _ ⟨S2, hS2, rfl⟩
        refine g_vret dX5_begin_39 rfl ⟨_, rfl, rfl, ?_⟩
        first | exact absurd (mS_same S 28 0 0) c31 | exact absurd ((mS_same S 28 0 1).symm.trans c31) (by decide) | exact absurd ((mS_same S 28 0 2).symm.trans c31) (by decide) | exact ⟨fun z => absurd z (Int32.not_lt.mpr c2), fun _ z => absurd z (fun z => z.elim c10 (fun y => y c16)), fun _ _ _ => (by rw [mS_ne (by decide), mS_ne (by decide), hS2.2.2.1 0 (by decide), man1_0, mS_same])⟩ | exact ⟨fun _ => mS_same _ _ _ _, fun z => absurd (Int32.not_le.mp c2) z, fun z => absurd (Int32.not_le.mp c2) z⟩ | exact ⟨fun z => absurd z (Int32.not_lt.mpr c2), fun _ _ => mS_same _ _ _ _, fun _ z => absurd c10 z⟩ | exact ⟨fun z => absurd z (Int32.not_lt.mpr c2), fun _ _ => mS_same _ _ _ _, fun _ _ z => absurd z c16⟩
    · refine g_iload_n dX5_begin_13 rfl rfl ?_
      refine g_ldc dX5_begin_14 coX5_24 ?_
      refine g_icmp_le (tgt := 23) dX5_begin_16 (by decide) (fun c16 => ?_) (fun c16 => ?_)
      · refine g_iconst (v := 0) dX5_begin_23 (by decide) ?_
        refine p_put dX5_begin_24 fpX5_75 rfl (Nat.le_of_ble_eq_true rfl) (fun _ => rfl) (fun _ => rfl) (by with_reducible first | exact wS_28_0 _ _ _ _) ?_
        refine g_aload_n dX5_begin_27 rfl rfl ?_
        refine g_get dX5_begin_28 flX5_75 rfl rfl ?_
        refine g_if_ne (tgt := 39) dX5_begin_31 (by decide) (fun c31 => ?_) (fun c31 => ?_)
        · refine g_vret dX5_begin_39 rfl ⟨_, rfl, rfl, ?_⟩
          first | exact absurd (mS_same S 28 0 0) c31 | exact absurd ((mS_same S 28 0 1).symm.trans c31) (by decide) | exact absurd ((mS_same S 28 0 2).symm.trans c31) (by decide) | exact ⟨fun z => absurd z (Int32.not_lt.mpr c2), fun _ z => absurd z (fun z => z.elim c10 (fun y => y c16)), fun _ _ _ => (by rw [mS_ne (by decide), mS_ne (by decide), hS2.2.2.1 0 (by decide), man1_0, mS_same])⟩ | exact ⟨fun _ => mS_same _ _ _ _, fun z => absurd (Int32.not_le.mp c2) z, fun z => absurd (Int32.not_le.mp c2) z⟩ | exact ⟨fun z => absurd z (Int32.not_lt.mpr c2), fun _ _ => mS_same _ _ _ _, fun _ z => absurd c10 z⟩ | exact ⟨fun z => absurd z (Int32.not_lt.mpr c2), fun _ _ => mS_same _ _ _ _, fun _ _ z => absurd z c16⟩
        · refine g_aload_n dX5_begin_34 rfl rfl ?_
          refine g_iload_n dX5_begin_35 rfl rfl ?_
          refine cV10 (fun _ _ => rfl) dX5_begin_36 mlX5_71 imX5_anew seX5_anew rfl rfl (m_anew _ _) (by decide) (Nat.le_of_ble_eq_true rfl) (Nat.le_of_ble_eq_true rfl) (Nat.le_of_ble_eq_true rfl) ?_
          rintro _ ⟨S2, hS2, rfl⟩
          refine g_vret dX5_begin_39 rfl ⟨_, rfl, rfl, ?_⟩
          first | exact absurd (mS_same S 28 0 0) c31 | exact absurd ((mS_same S 28 0 1).symm.trans c31) (by decide) | exact absurd ((mS_same S 28 0 2).symm.trans c31) (by decide) | exact ⟨fun z => absurd z (Int32.not_lt.mpr c2), fun _ z => absurd z (fun z => z.elim c10 (fun y => y c16)), fun _ _ _ => (by rw [mS_ne (by decide), mS_ne (by decide), hS2.2.2.1 0 (by decide), man1_0, mS_same])⟩ | exact ⟨fun _ => mS_same _ _ _ _, fun z => absurd (Int32.not_le.mp c2) z, fun z => absurd (Int32.not_le.mp c2) z⟩ | exact ⟨fun z => absurd z (Int32.not_lt.mpr c2), fun _ _ => mS_same _ _ _ _, fun _ z => absurd c10 z⟩ | exact ⟨fun z => absurd z (Int32.not_lt.mpr c2), fun _ _ => mS_same _ _ _ _, fun _ _ z => absurd z c16⟩
      · refine g_iconst (v := 2) dX5_begin_19 (by decide) ?_
        refine g_goto (tgt := 24) dX5_begin_20 (by decide) ?_
        refine p_put dX5_begin_24 fpX5_75 rfl (Nat.le_of_ble_eq_true rfl) (fun _ => rfl) (fun _ => rfl) (by with_reducible first | exact wS_28_0 _ _ _ _) ?_
        refine g_aload_n dX5_begin_27 rfl rfl ?_
        refine g_get dX5_begin_28 flX5_75 rfl rfl ?_
        refine g_if_ne (tgt := 39) dX5_begin_31 (by decide) (fun c31 => ?_) (fun c31 => ?_)
        · refine g_vret dX5_begin_39 rfl ⟨_, rfl, rfl, ?_⟩
          first | exact absurd (mS_same S 28 0 0) c31 | exact absurd ((mS_same S 28 0 1).symm.trans c31) (by decide) | exact absurd ((mS_same S 28 0 2).symm.trans c31) (by decide) | exact ⟨fun z => absurd z (Int32.not_lt.mpr c2), fun _ z => absurd z (fun z => z.elim c10 (fun y => y c16)), fun _ _ _ => (by rw [mS_ne (by decide), mS_ne (by decide), hS2.2.2.1 0 (by decide), man1_0, mS_same])⟩ | exact ⟨fun _ => mS_same _ _ _ _, fun z => absurd (Int32.not_le.mp c2) z, fun z => absurd (Int32.not_le.mp c2) z⟩ | exact ⟨fun z => absurd z (Int32.not_lt.mpr c2), fun _ _ => mS_same _ _ _ _, fun _ z => absurd c10 z⟩ | exact ⟨fun z => absurd z (Int32.not_lt.mpr c2), fun _ _ => mS_same _ _ _ _, fun _ _ z => absurd z c16⟩
        · refine g_aload_n dX5_begin_34 rfl rfl ?_
          refine g_iload_n dX5_begin_35 rfl rfl ?_
          refine cV10 (fun _ _ => rfl) dX5_begin_36 mlX5_71 imX5_anew seX5_anew rfl rfl (m_anew _ _) (by decide) (Nat.le_of_ble_eq_true rfl) (Nat.le_of_ble_eq_true rfl) (Nat.le_of_ble_eq_true rfl) ?_
          rintro _ ⟨S2, hS2, rfl⟩
          refine g_vret dX5_begin_39 rfl ⟨_, rfl, rfl, ?_⟩
          first | exact absurd (mS_same S 28 0 0) c31 | exact absurd ((mS_same S 28 0 1).symm.trans c31) (by decide) | exact absurd ((mS_same S 28 0 2).symm.trans c31) (by decide) | exact ⟨fun z => absurd z (Int32.not_lt.mpr c2), fun _ z => absurd z (fun z => z.elim c10 (fun y => y c16)), fun _ _ _ => (by rw [mS_ne (by decide), mS_ne (by decide), hS2.2.2.1 0 (by decide), man1_0, mS_same])⟩ | exact ⟨fun _ => mS_same _ _ _ _, fun z => absurd (Int32.not_le.mp c2) z, fun z => absurd (Int32.not_le.mp c2) z⟩ | exact ⟨fun z => absurd z (Int32.not_lt.mpr c2), fun _ _ => mS_same _ _ _ _, fun _ z => absurd c10 z⟩ | exact ⟨fun z => absurd z (Int32.not_lt.mpr c2), fun _ _ => mS_same _ _ _ _, fun _ _ z => absurd z c16⟩
  · refine g_iconst (v := 1) dX5_begin_5 (by decide) ?_
    refine g_goto (tgt := 24) dX5_begin_6 (by decide) ?_
    refine p_put dX5_begin_24 fpX5_75 rfl (Nat.le_of_ble_eq_true rfl) (fun _ => rfl) (fun _ => rfl) (by with_reducible first | exact wS_28_0 _ _ _ _) ?_
    refine g_aload_n dX5_begin_27 rfl rfl ?_
    refine g_get dX5_begin_28 flX5_75 rfl rfl ?_
    refine g_if_ne (tgt := 39) dX5_begin_31 (by decide) (fun c31 => ?_) (fun c31 => ?_)
    · refine g_vret dX5_begin_39 rfl ⟨_, rfl, rfl, ?_⟩
      first | exact absurd (mS_same S 28 0 0) c31 | exact absurd ((mS_same S 28 0 1).symm.trans c31) (by decide) | exact absurd ((mS_same S 28 0 2).symm.trans c31) (by decide) | exact ⟨fun z => absurd z (Int32.not_lt.mpr c2), fun _ z => absurd z (fun z => z.elim c10 (fun y => y c16)), fun _ _ _ => (by rw [mS_ne (by decide), mS_ne (by decide), hS2.2.2.1 0 (by decide), man1_0, mS_same])⟩ | exact ⟨fun _ => mS_same _ _ _ _, fun z => absurd (Int32.not_le.mp c2) z, fun z => absurd (Int32.not_le.mp c2) z⟩ | exact ⟨fun z => absurd z (Int32.not_lt.mpr c2), fun _ _ => mS_same _ _ _ _, fun _ z => absurd c10 z⟩ | exact ⟨fun z => absurd z (Int32.not_lt.mpr c2), fun _ _ => mS_same _ _ _ _, fun _ _ z => absurd z c16⟩
    · refine g_aload_n dX5_begin_34 rfl rfl ?_
      refine g_iload_n dX5_begin_35 rfl rfl ?_
      refine cV10 (fun _ _ => rfl) dX5_begin_36 mlX5_71 imX5_anew seX5_anew rfl rfl (m_anew _ _) (by decide) (Nat.le_of_ble_eq_true rfl) (Nat.le_of_ble_eq_true rfl) (Nat.le_of_ble_eq_true rfl) ?_
      rintro _ ⟨S2, hS2, rfl⟩
      refine g_vret dX5_begin_39 rfl ⟨_, rfl, rfl, ?_⟩
      first | exact absurd (mS_same S 28 0 0) c31 | exact absurd ((mS_same S 28 0 1).symm.trans c31) (by decide) | exact absurd ((mS_same S 28 0 2).symm.trans c31) (by decide) | exact ⟨fun z => absurd z (Int32.not_lt.mpr c2), fun _ z => absurd z (fun z => z.elim c10 (fun y => y c16)), fun _ _ _ => (by rw [mS_ne (by decide), mS_ne (by decide), hS2.2.2.1 0 (by decide), man1_0, mS_same])⟩ | exact ⟨fun _ => mS_same _ _ _ _, fun z => absurd (Int32.not_le.mp c2) z, fun z => absurd (Int32.not_le.mp c2) z⟩ | exact ⟨fun z => absurd z (Int32.not_lt.mpr c2), fun _ _ => mS_same _ _ _ _, fun _ z => absurd c10 z⟩ | exact ⟨fun z => absurd z (Int32.not_lt.mpr c2), fun _ _ => mS_same _ _ _ _, fun _ _ z => absurd z c16⟩
end
